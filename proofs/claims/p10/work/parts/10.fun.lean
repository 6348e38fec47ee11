
set_option maxHeartbeats 4000000 in
set_option maxRecDepth 100000 in
theorem zf_J9_floorDiv_f86c9 (l : Launch) (dC : Nat → ClassId) (dI : Nat → Nat → Nat) (j0 : Int64) (j1 : Int64) (o : Int64) (hfn : fn_J9_floorDiv_f86c9 j0 j1 = some o) (sz : Nat) : Met l yJ9_floorDiv_f86c9 wsJ9_floorDiv_f86c9 ({ frames := 0, cells := 0, slots := 0, locals := 0 }) (va_Pc [.long j0, .long j1] (fun U => U.heap.size = sz ∧ va_P (dC, dI) vwCl [] U.heap ∧ va_K (dC, dI) vwCl [] U ∧ va_D (fun _ => True) [])) (va_Ql (fun (r : Int64) (u : Unit) => r = o) (fun u t => va_P (dC, dI) vwCl [] t.heap ∧ va_K (dC, dI) vwCl [] t ∧ va_D (va_A [] sz) []) (va_A [] sz)) 0 0 (va_A [] sz) := by
  refine zMet_of (cc := cJ9_floorDiv_f86c9) (maxL := 6) (ret := (some .long)) (by decide +kernel) rfl ?_
  intro p e s m args below meth c s₁ B hml hv
  obtain ⟨rfl, hsz, hP, hK, hD0⟩ := hv
  have hx := B.exec
  have hb := B.bytes
  have hr := B.returns
  have hts := atoms_spec (ws := wsJ9_floorDiv_f86c9) B.pre
  have hown : s.vm.findClass RJ9 = some m.cls := (findClass_of_methodNamed B.named :)
  have hlocks := B.notSynchronized
  subst hsz
  have hD := hD0.self (sz := s.heap.size)
  generalize hAe : va_A [] s.heap.size = A at hD ⊢
  have hA : ∀ q : Nat, s.heap.size ≤ q → A q := fun q h => by rw [← hAe]; exact Or.inr h
  have hS : va_S A s.heap s.heap [] := va_S.rf
  have hP : va_P (dC, dI) vwCl [] s.heap := hP
  have hl := lv_entry ([.long j0, .long j1]) (n := 6) (Nat.le_of_ble_eq_true rfl)
  rw [lg_entry_eq]
  generalize (lg_sl ([.long j0, .long j1]) ++ List.replicate (6 - (lg_sl ([.long j0, .long j1])).length) Slot.unset).toArray = ls at hl ⊢
  have hl : lv_has ls 6 [(0, .long j0), (2, .long j1)] := hl
  refine zQ (fun Q hQ => ?_)
  unfold fn_J9_floorDiv_f86c9 at hfn
  refine lv_lload_n hx hb dJ9_floorDiv_f86c9_0 rfl (lv_at hl 0 rfl) ?_
  refine lv_lload_n hx hb dJ9_floorDiv_f86c9_1 rfl (lv_at hl 1 rfl) ?_
  obtain ⟨h_1, hfn⟩ := zd_s hfn
  refine lv_ldiv hx hb dJ9_floorDiv_f86c9_2 h_1 ?_
  refine lv_lstore (lv' := [(4, .long (j0 / j1)), (0, .long j0), (2, .long j1)]) hx hb dJ9_floorDiv_f86c9_3 hl (of_decide_eq_true rfl) rfl (fun ls hl => ?_)
  refine lv_lload_n hx hb dJ9_floorDiv_f86c9_5 rfl (lv_at hl 1 rfl) ?_
  refine lv_lload_n hx hb dJ9_floorDiv_f86c9_6 rfl (lv_at hl 2 rfl) ?_
  refine lv_lxor hx hb dJ9_floorDiv_f86c9_7 ?_
  refine lv_lconst (v := 0) hx hb dJ9_floorDiv_f86c9_8 (by decide +kernel) ?_
  refine W.lcmp hx hb dJ9_floorDiv_f86c9_9 ?_
  refine lv_if_ge (tgt := 27) hx hb dJ9_floorDiv_f86c9_10 (of_decide_eq_true rfl) (fun c_2 => ?_) (fun c_2 => ?_)
  · have hfn := (if_pos c_2).symm.trans hfn
    refine lv_lload hx hb dJ9_floorDiv_f86c9_27 (lv_at hl 0 rfl) ?_
    have ho := Option.some.inj hfn
    subst ho
    obtain ⟨hP9, hD9⟩ := zPD (ws' := []) hP hD [] (of_decide_eq_true rfl) rfl
    have hK9 := hK.sub (tys' := []) [] rfl
    rw [← hQ]
    exact W.lret (v := (j0 / j1)) hx hb hr (fun t ht hW => ⟨⟨(j0 / j1), (), rfl, rfl, by rw [ht]; exact hP9, va_K.moved hW.alike hK9, hD9⟩, hS.F ht⟩) hS.2.2 dJ9_floorDiv_f86c9_29
  have hfn := (if_neg c_2).symm.trans hfn
  refine lv_lload hx hb dJ9_floorDiv_f86c9_13 (lv_at hl 0 rfl) ?_
  refine lv_lload_n hx hb dJ9_floorDiv_f86c9_15 rfl (lv_at hl 2 rfl) ?_
  refine lv_lmul hx hb dJ9_floorDiv_f86c9_16 ?_
  refine lv_lload_n hx hb dJ9_floorDiv_f86c9_17 rfl (lv_at hl 1 rfl) ?_
  refine W.lcmp hx hb dJ9_floorDiv_f86c9_18 ?_
  refine lv_if_eq (tgt := 27) hx hb dJ9_floorDiv_f86c9_19 (of_decide_eq_true rfl) (fun c_3 => ?_) (fun c_3 => ?_)
  · have hfn := (if_pos c_3).symm.trans hfn
    refine lv_lload hx hb dJ9_floorDiv_f86c9_27 (lv_at hl 0 rfl) ?_
    have ho := Option.some.inj hfn
    subst ho
    obtain ⟨hP9, hD9⟩ := zPD (ws' := []) hP hD [] (of_decide_eq_true rfl) rfl
    have hK9 := hK.sub (tys' := []) [] rfl
    rw [← hQ]
    exact W.lret (v := (j0 / j1)) hx hb hr (fun t ht hW => ⟨⟨(j0 / j1), (), rfl, rfl, by rw [ht]; exact hP9, va_K.moved hW.alike hK9, hD9⟩, hS.F ht⟩) hS.2.2 dJ9_floorDiv_f86c9_29
  have hfn := (if_neg c_3).symm.trans hfn
  refine lv_lload hx hb dJ9_floorDiv_f86c9_22 (lv_at hl 0 rfl) ?_
  refine lv_lconst (v := 1) hx hb dJ9_floorDiv_f86c9_24 (by decide +kernel) ?_
  refine lv_lsub hx hb dJ9_floorDiv_f86c9_25 ?_
  have ho := Option.some.inj hfn
  subst ho
  obtain ⟨hP9, hD9⟩ := zPD (ws' := []) hP hD [] (of_decide_eq_true rfl) rfl
  have hK9 := hK.sub (tys' := []) [] rfl
  rw [← hQ]
  exact W.lret (v := ((j0 / j1) - (1 : Int64))) hx hb hr (fun t ht hW => ⟨⟨((j0 / j1) - (1 : Int64)), (), rfl, rfl, by rw [ht]; exact hP9, va_K.moved hW.alike hK9, hD9⟩, hS.F ht⟩) hS.2.2 dJ9_floorDiv_f86c9_26
theorem zn_X0_forget_X0 : ∀ w ∈ wsX00, w ∈ wsX0_forget := fun _ h => List.mem_cons_of_mem _ (List.mem_append_right _ h)
theorem zw_X0_forget_1 : Cond.fieldLink RX0 29 "ShortEnough$CertificateReader" "breaksAt" "I" ∈ wsX0_forget := List.mem_of_getElem? (i := 1) (by decide +kernel)
theorem zw_X0_forget_2 : Cond.fieldLink RX0 33 "ShortEnough$CertificateReader" "reason" "I" ∈ wsX0_forget := List.mem_of_getElem? (i := 2) (by decide +kernel)
set_option maxHeartbeats 4000000 in
set_option maxRecDepth 100000 in
theorem zf_X0_forget (l : Launch) (dC : Nat → ClassId) (dI : Nat → Nat → Nat) (h0 : Nat) (r0_0 : Nat) (r0_1 : Nat) (r0_2 : Nat) (v0_3 : Int32) (v0_4 : Int32) (o : Int32 × Int32) (hfn : fn_X0_forget = some o) (sz : Nat) : zMv l yX0_forget wsX0_forget ({ frames := 0, cells := 0, slots := 0, locals := 0 }) (dC, dI) vwCl [.ref h0] [zV0 h0 r0_0 r0_1 r0_2 v0_3 v0_4] [] (fun _ => True) [zV0 h0 r0_0 r0_1 r0_2 o.1 o.2] [] sz := by
  refine zgov (cc := cX0_forget) (maxL := 1) (ret := none) (C0 := RX0) (lv0 := [(0, .ref h0)]) zpl_X0 rfl rfl rfl (Nat.le_of_ble_eq_true rfl) ?_
  intro p e s m below meth c A ls Q hx hb hr hts hown hlocks hml hP hK hD hA hS hl hQ
  unfold fn_X0_forget at hfn
  refine lv_aload_n hx hb dX0_forget_0 rfl (lv_at hl 0 rfl) ?_
  refine lv_iconst (v := (-1)) hx hb dX0_forget_1 zci_m1 ?_
  refine va_put (D := (dC, dI)) (ci := 0) (v := .int (-1)) (ty := .int) (C := RX0) (T := TX0) (N := 5) hx hb hts zn_X0_forget_X0 tyX0 tyX0_ok nmX0 hown hK hP hD hS 0 rfl rfl 3 (of_decide_eq_true rfl) (hts (.fieldLink RX0 29 "ShortEnough$CertificateReader" "breaksAt" "I") zw_X0_forget_1) (fun _ h9 => h9) rfl (tyX0_ok 3 (of_decide_eq_true rfl)) rfl rfl (Nat.le_of_ble_eq_true rfl) dX0_forget_2 (fun H locs hP hD hS => ?_)
  have hP : va_P (dC, dI) vwCl [zV0 h0 r0_0 r0_1 r0_2 (-1) v0_4] H := hP
  have hD := zDW hD hP rfl
  refine lv_aload_n hx hb dX0_forget_5 rfl (lv_at hl 0 rfl) ?_
  refine lv_iconst (v := (-1)) hx hb dX0_forget_6 zci_m1 ?_
  refine va_put (D := (dC, dI)) (ci := 0) (v := .int (-1)) (ty := .int) (C := RX0) (T := TX0) (N := 5) hx hb hts zn_X0_forget_X0 tyX0 tyX0_ok nmX0 hown hK hP hD hS 0 rfl rfl 4 (of_decide_eq_true rfl) (hts (.fieldLink RX0 33 "ShortEnough$CertificateReader" "reason" "I") zw_X0_forget_2) (fun _ h9 => h9) rfl (tyX0_ok 4 (of_decide_eq_true rfl)) rfl rfl (Nat.le_of_ble_eq_true rfl) dX0_forget_7 (fun H locs hP hD hS => ?_)
  have hP : va_P (dC, dI) vwCl [zV0 h0 r0_0 r0_1 r0_2 (-1) (-1)] H := hP
  have hD := zDW hD hP rfl
  have ho := Option.some.inj hfn
  subst ho
  exact zrv hx hb hr hK hP hD hS hQ trivial hlocks dX0_forget_10
theorem zn_X2_fillFree_X2 : ∀ w ∈ wsX20, w ∈ wsX2_fillFree := fun _ h => List.mem_cons_of_mem _ (List.mem_append_right _ h)
theorem zw_X2_fillFree_11 : Cond.fieldLink RX2 21 "ShortEnough$Groups" "count" "I" ∈ wsX2_fillFree := List.mem_of_getElem? (i := 1) (by decide +kernel)
theorem zw_X2_fillFree_12 : Cond.fieldLink RX2 15 "ShortEnough$Groups" "fixedAs" "[I" ∈ wsX2_fillFree := List.mem_of_getElem? (i := 2) (by decide +kernel)
set_option maxHeartbeats 4000000 in
set_option maxRecDepth 100000 in
theorem zf_X2_fillFree (l : Launch) (dC : Nat → ClassId) (dI : Nat → Nat → Nat) (h0 : Nat) (h1 : Nat) (p2 : Int32) (v0_0 : Int32) (v0_1 : Int32) (v0_2 : Int32) (r0_3 : Nat) (r0_4 : Nat) (r0_5 : Nat) (k1 : Nat) (f1 : Nat → Int32) (k2 : Nat) (f2 : Nat → Int32) (o : (Nat → Int32)) (hfn : fn_X2_fillFree p2 v0_0 f1 f2 = some o) (sz : Nat) : zMv l yX2_fillFree wsX2_fillFree ({ frames := 0, cells := 0, slots := 0, locals := 0 }) (dC, dI) vwCl [.ref h0, .ref h1, .int p2] [zV2 h0 v0_0 v0_1 v0_2 r0_3 r0_4 r0_5, zVi h1 k1 14 f1, zVi r0_4 k2 14 f2] [(k1, .int), (k2, .int)] (fun _ => True) [zV2 h0 v0_0 v0_1 v0_2 r0_3 r0_4 r0_5, zVi h1 k1 14 o, zVi r0_4 k2 14 f2] [(k1, .int), (k2, .int)] sz := by
  refine zgov (cc := cX2_fillFree) (maxL := 4) (ret := none) (C0 := RX2) (lv0 := [(0, .ref h0), (1, .ref h1), (2, .int p2)]) zpl_X2 rfl rfl rfl (Nat.le_of_ble_eq_true rfl) ?_
  intro p e s m below meth c A ls Q hx hb hr hts hown hlocks hml hP hK hD hA hS hl hQ
  unfold fn_X2_fillFree at hfn
  refine lv_iconst (v := 0) hx hb dX2_fillFree_0 zci_0 ?_
  refine lv_istore_n (lv' := [(3, .int 0), (0, .ref h0), (1, .ref h1), (2, .int p2)]) hx hb dX2_fillFree_1 rfl hl (of_decide_eq_true rfl) rfl (fun ls hl => ?_)
  obtain ⟨bd_1, ebd_1, hfn⟩ := zl_g hfn
  have lp_1 : ∀ (n : Nat) (s_1 : Int32 × (Nat → Int32)) (H : Heap) (locs : List Loc) (ls : Array Slot), zl bd_1 n s_1 = some o → va_P (dC, dI) vwCl [zV2 h0 v0_0 v0_1 v0_2 r0_3 r0_4 r0_5, zVi h1 k1 14 s_1.2, zVi r0_4 k2 14 f2] H → va_D A [zV2 h0 v0_0 v0_1 v0_2 r0_3 r0_4 r0_5, zVi h1 k1 14 s_1.2, zVi r0_4 k2 14 f2] → va_S A s.heap H locs → lv_has ls 4 [(3, .int s_1.1), (0, .ref h0), (1, .ref h1), (2, .int p2)] → W p l e (headSpec wsX2_fillFree ({ frames := 0, cells := 0, slots := 0, locals := 0 })).room s m ([.ref h0, .ref h1, .int p2] : List Value).toArray below meth c H locs 0 0 Q (F0 m 2 ls []) := by
    intro n
    induction n with
    | zero => exact fun _ _ _ _ hfn => (zl_0 hfn).elim
    | succ n ih_1 =>
      intro s_1 H locs ls hfn hP hD hS hl
      have hfn := zl_s ebd_1 hfn
      refine lv_iload_n hx hb dX2_fillFree_2 rfl (lv_at hl 0 rfl) ?_
      refine lv_aload_n hx hb dX2_fillFree_3 rfl (lv_at hl 1 rfl) ?_
      refine va_get (D := (dC, dI)) (ci := 2) (v := .int v0_0) (C := RX2) (T := TX2) (N := 6) hx hb hts zn_X2_fillFree_X2 hown hK hP 0 rfl rfl 0 (of_decide_eq_true rfl) (hts (.fieldLink RX2 21 "ShortEnough$Groups" "count" "I") zw_X2_fillFree_11) (fun _ h9 => h9) rfl dX2_fillFree_4 ?_
      refine lv_icmp_ge (tgt := 45) hx hb dX2_fillFree_7 (of_decide_eq_true rfl) (fun c_2 => ?_) (fun c_2 => ?_)
      · have hfn := (if_pos c_2).symm.trans hfn
        have ho := Option.some.inj hfn
        subst ho
        exact zrv hx hb hr hK hP hD hS hQ trivial hlocks dX2_fillFree_45
      have hfn := (if_neg c_2).symm.trans hfn
      refine lv_iload_n hx hb dX2_fillFree_10 rfl (lv_at hl 0 rfl) ?_
      refine lv_aload_n hx hb dX2_fillFree_11 rfl (lv_at hl 2 rfl) ?_
      refine va_alen (v := 14) hx hb hK hP 1 0 rfl rfl (show Int32.ofNat 14 = 14 by decide +kernel) dX2_fillFree_12 ?_
      refine lv_icmp_ge (tgt := 45) hx hb dX2_fillFree_13 (of_decide_eq_true rfl) (fun c_3 => ?_) (fun c_3 => ?_)
      · have hfn := (if_pos c_3).symm.trans hfn
        have ho := Option.some.inj hfn
        subst ho
        exact zrv hx hb hr hK hP hD hS hQ trivial hlocks dX2_fillFree_45
      have hfn := (if_neg c_3).symm.trans hfn
      refine lv_aload_n hx hb dX2_fillFree_16 rfl (lv_at hl 2 rfl) ?_
      refine lv_iload_n hx hb dX2_fillFree_17 rfl (lv_at hl 0 rfl) ?_
      refine lv_aload_n hx hb dX2_fillFree_18 rfl (lv_at hl 1 rfl) ?_
      refine va_get (D := (dC, dI)) (ci := 2) (v := .ref r0_4) (C := RX2) (T := TX2) (N := 6) hx hb hts zn_X2_fillFree_X2 hown hK hP 0 rfl rfl 4 (of_decide_eq_true rfl) (hts (.fieldLink RX2 15 "ShortEnough$Groups" "fixedAs" "[I") zw_X2_fillFree_12) (fun _ h9 => h9) rfl dX2_fillFree_19 ?_
      refine lv_iload_n hx hb dX2_fillFree_22 rfl (lv_at hl 0 rfl) ?_
      obtain ⟨h_4, hfn⟩ := zg_s hfn
      refine va_iald hx hb hK hP 2 1 rfl rfl h_4 dX2_fillFree_23 ?_
      refine lv_iconst (v := (-1)) hx hb dX2_fillFree_24 zci_m1 ?_
      refine lv_icmp_ne (tgt := 32) hx hb dX2_fillFree_25 (of_decide_eq_true rfl) (fun c_5 => ?_) (fun c_5 => ?_)
      · have hfn := (if_neg c_5).symm.trans hfn
        refine lv_aload_n hx hb dX2_fillFree_32 rfl (lv_at hl 1 rfl) ?_
        refine va_get (D := (dC, dI)) (ci := 2) (v := .ref r0_4) (C := RX2) (T := TX2) (N := 6) hx hb hts zn_X2_fillFree_X2 hown hK hP 0 rfl rfl 4 (of_decide_eq_true rfl) (hts (.fieldLink RX2 15 "ShortEnough$Groups" "fixedAs" "[I") zw_X2_fillFree_12) (fun _ h9 => h9) rfl dX2_fillFree_33 ?_
        refine lv_iload_n hx hb dX2_fillFree_36 rfl (lv_at hl 0 rfl) ?_
        refine va_iald hx hb hK hP 2 1 rfl rfl h_4 dX2_fillFree_37 ?_
        refine va_iast hx hb hK hP hD hS 1 0 rfl rfl h_4 dX2_fillFree_38 (fun H locs hP hD hS => ?_)
        have hP : va_P (dC, dI) vwCl [zV2 h0 v0_0 v0_1 v0_2 r0_3 r0_4 r0_5, zVi h1 k1 14 (upd s_1.2 s_1.1.toNatClampNeg (f2 s_1.1.toNatClampNeg)), zVi r0_4 k2 14 f2] H := hP
        have hD := zDW hD hP rfl
        refine lv_iinc (v := (s_1.1 + 1)) (lv' := [(3, .int (s_1.1 + 1)), (0, .ref h0), (1, .ref h1), (2, .int p2)]) hx hb dX2_fillFree_39 hl (k := 0) rfl rfl (of_decide_eq_true rfl) rfl (fun ls hl => ?_)
        refine lv_goto (tgt := 2) hx hb dX2_fillFree_42 (of_decide_eq_true rfl) ?_
        exact ih_1 ((s_1.1 + 1), (upd s_1.2 s_1.1.toNatClampNeg (f2 s_1.1.toNatClampNeg))) H locs ls hfn hP hD hS (lv_sub hl [0, 1, 2, 3] rfl)
      have hfn := (if_pos c_5).symm.trans hfn
      refine lv_iload_n hx hb dX2_fillFree_28 rfl (lv_at hl 3 rfl) ?_
      refine lv_goto (tgt := 38) hx hb dX2_fillFree_29 (of_decide_eq_true rfl) ?_
      refine va_iast hx hb hK hP hD hS 1 0 rfl rfl h_4 dX2_fillFree_38 (fun H locs hP hD hS => ?_)
      have hP : va_P (dC, dI) vwCl [zV2 h0 v0_0 v0_1 v0_2 r0_3 r0_4 r0_5, zVi h1 k1 14 (upd s_1.2 s_1.1.toNatClampNeg p2), zVi r0_4 k2 14 f2] H := hP
      have hD := zDW hD hP rfl
      refine lv_iinc (v := (s_1.1 + 1)) (lv' := [(3, .int (s_1.1 + 1)), (0, .ref h0), (1, .ref h1), (2, .int p2)]) hx hb dX2_fillFree_39 hl (k := 0) rfl rfl (of_decide_eq_true rfl) rfl (fun ls hl => ?_)
      refine lv_goto (tgt := 2) hx hb dX2_fillFree_42 (of_decide_eq_true rfl) ?_
      exact ih_1 ((s_1.1 + 1), (upd s_1.2 s_1.1.toNatClampNeg p2)) H locs ls hfn hP hD hS (lv_sub hl [0, 1, 2, 3] rfl)
  exact lp_1 _ (0, f1) s.heap [] ls hfn hP hD hS (lv_sub hl [0, 1, 2, 3] rfl)
theorem zn_X9_hasFormat_X9 : ∀ w ∈ wsX90, w ∈ wsX9_hasFormat := fun _ h => List.mem_cons_of_mem _ (List.mem_append_right _ h)
theorem zw_X9_hasFormat_20 : Cond.fieldLink RX9 45 "ShortEnough$Task" "formats" "I" ∈ wsX9_hasFormat := List.mem_of_getElem? (i := 1) (by decide +kernel)
set_option maxHeartbeats 4000000 in
set_option maxRecDepth 100000 in
theorem zf_X9_hasFormat (l : Launch) (dC : Nat → ClassId) (dI : Nat → Nat → Nat) (h0 : Nat) (p1 : Int32) (v0_0 : Int32) (r0_1 : Nat) (r0_2 : Nat) (r0_3 : Nat) (r0_4 : Nat) (v0_5 : Int32) (r0_6 : Nat) (r0_7 : Nat) (r0_8 : Nat) (o : Int32) (hfn : fn_X9_hasFormat p1 v0_0 = some o) (sz : Nat) : zMi l yX9_hasFormat wsX9_hasFormat ({ frames := 0, cells := 0, slots := 0, locals := 0 }) (dC, dI) vwCl [.ref h0, .int p1] [zV9 h0 v0_0 r0_1 r0_2 r0_3 r0_4 v0_5 r0_6 r0_7 r0_8] [] (fun r _ => r = o ∧ narrow .boolean (.int o) = .int o) [zV9 h0 v0_0 r0_1 r0_2 r0_3 r0_4 v0_5 r0_6 r0_7 r0_8] [] sz := by
  refine zgoi (cc := cX9_hasFormat) (maxL := 2) (ret := (some .boolean)) (C0 := RX9) (lv0 := [(0, .ref h0), (1, .int p1)]) zpl_X9 rfl rfl rfl (Nat.le_of_ble_eq_true rfl) ?_
  intro p e s m below meth c A ls Q hx hb hr hts hown hlocks hml hP hK hD hA hS hl hQ
  unfold fn_X9_hasFormat at hfn
  refine lv_iload_n hx hb dX9_hasFormat_0 rfl (lv_at hl 1 rfl) ?_
  refine lv_if_lt (tgt := 16) hx hb dX9_hasFormat_1 (of_decide_eq_true rfl) (fun c_1 => ?_) (fun c_1 => ?_)
  · have hfn := (if_pos c_1).symm.trans hfn
    refine lv_iconst (v := 0) hx hb dX9_hasFormat_16 zci_0 ?_
    have ho := Option.some.inj hfn
    subst ho
    exact zrz hx hb hr rfl hK hP hD hS hQ ⟨rfl, zB0⟩ hlocks dX9_hasFormat_17
  have hfn := (if_neg c_1).symm.trans hfn
  refine lv_iload_n hx hb dX9_hasFormat_4 rfl (lv_at hl 1 rfl) ?_
  refine lv_aload_n hx hb dX9_hasFormat_5 rfl (lv_at hl 0 rfl) ?_
  refine va_get (D := (dC, dI)) (ci := 9) (v := .int v0_0) (C := RX9) (T := TX9) (N := 9) hx hb hts zn_X9_hasFormat_X9 hown hK hP 0 rfl rfl 0 (of_decide_eq_true rfl) (hts (.fieldLink RX9 45 "ShortEnough$Task" "formats" "I") zw_X9_hasFormat_20) (fun _ h9 => h9) rfl dX9_hasFormat_6 ?_
  refine lv_icmp_ge (tgt := 16) hx hb dX9_hasFormat_9 (of_decide_eq_true rfl) (fun c_2 => ?_) (fun c_2 => ?_)
  · have hfn := (if_pos c_2).symm.trans hfn
    refine lv_iconst (v := 0) hx hb dX9_hasFormat_16 zci_0 ?_
    have ho := Option.some.inj hfn
    subst ho
    exact zrz hx hb hr rfl hK hP hD hS hQ ⟨rfl, zB0⟩ hlocks dX9_hasFormat_17
  have hfn := (if_neg c_2).symm.trans hfn
  refine lv_iconst (v := 1) hx hb dX9_hasFormat_12 zci_1 ?_
  refine lv_goto (tgt := 17) hx hb dX9_hasFormat_13 (of_decide_eq_true rfl) ?_
  have ho := Option.some.inj hfn
  subst ho
  exact zrz hx hb hr rfl hK hP hD hS hQ ⟨rfl, zB1⟩ hlocks dX9_hasFormat_17
theorem zw_X0_readLong_24 : Cond.constantLong RX0 110 (-1000000000000) ∈ wsX0_readLong := List.mem_of_getElem? (i := 1) (by decide +kernel)
theorem zw_X0_readLong_25 : Cond.constantLong RX0 112 (1000000000000) ∈ wsX0_readLong := List.mem_of_getElem? (i := 2) (by decide +kernel)
theorem zw_X0_readLong_26 : Cond.methodLink RX0 114 Lib.MathLoose.min_long.x ∈ wsX0_readLong := List.mem_of_getElem? (i := 3) (by decide +kernel)
theorem zw_X0_readLong_27 : Cond.static Lib.MathLoose.min_long.x ∈ wsX0_readLong := List.mem_of_getElem? (i := 4) (by decide +kernel)
theorem zw_X0_readLong_28 : Cond.initialized "java/lang/Math" ∈ wsX0_readLong := List.mem_of_getElem? (i := 5) (by decide +kernel)
theorem zw_X0_readLong_29 : Cond.code Lib.MathLoose.min_long.x Lib.MathLoose.min_long.code 4 (some .long) ∈ wsX0_readLong := List.mem_of_getElem? (i := 6) (by decide +kernel)
theorem zw_X0_readLong_30 : Cond.methodLink RX0 120 Lib.MathLoose.max_long.x ∈ wsX0_readLong := List.mem_of_getElem? (i := 7) (by decide +kernel)
theorem zw_X0_readLong_31 : Cond.static Lib.MathLoose.max_long.x ∈ wsX0_readLong := List.mem_of_getElem? (i := 8) (by decide +kernel)
theorem zw_X0_readLong_32 : Cond.code Lib.MathLoose.max_long.x Lib.MathLoose.max_long.code 4 (some .long) ∈ wsX0_readLong := List.mem_of_getElem? (i := 9) (by decide +kernel)
set_option maxHeartbeats 4000000 in
set_option maxRecDepth 100000 in
theorem zf_X0_readLong (l : Launch) (dC : Nat → ClassId) (dI : Nat → Nat → Nat) (h0 : Nat) (p1 : Int32) (k0 : Nat) (f0 : Nat → Int32) (o : Int64) (hfn : fn_X0_readLong p1 f0 = some o) (sz : Nat) : zMl l yX0_readLong wsX0_readLong ({ frames := 1, cells := 0, slots := 0, locals := 40 }) (dC, dI) vwCl [.ref h0, .int p1] [zVi h0 k0 1200 f0] [(k0, .byte)] (fun r _ => r = o) [zVi h0 k0 1200 f0] [(k0, .byte)] sz := by
  refine zgol (cc := cX0_readLong) (maxL := 5) (ret := (some .long)) (C0 := RX0) (lv0 := [(0, .ref h0), (1, .int p1)]) zpl_X0 rfl rfl rfl (Nat.le_of_ble_eq_true rfl) ?_
  intro p e s m below meth c A ls Q hx hb hr hts hown hlocks hml hP hK hD hA hS hl hQ
  unfold fn_X0_readLong at hfn
  refine lv_lconst (v := 0) hx hb dX0_readLong_0 (by decide +kernel) ?_
  refine lv_lstore_n (lv' := [(2, .long 0), (0, .ref h0), (1, .int p1)]) hx hb dX0_readLong_1 rfl hl (of_decide_eq_true rfl) rfl (fun ls hl => ?_)
  refine lv_iload_n hx hb dX0_readLong_2 rfl (lv_at hl 2 rfl) ?_
  refine lv_istore (lv' := [(4, .int p1), (2, .long 0), (0, .ref h0), (1, .int p1)]) hx hb dX0_readLong_3 hl (of_decide_eq_true rfl) rfl (fun ls hl => ?_)
  obtain ⟨bd_1, ebd_1, hfn⟩ := zl_g hfn
  have lp_1 : ∀ (n : Nat) (s_1 : Int64 × Int32) (H : Heap) (locs : List Loc) (ls : Array Slot), zl bd_1 n s_1 = some o → va_P (dC, dI) vwCl [zVi h0 k0 1200 f0] H → va_D A [zVi h0 k0 1200 f0] → va_S A s.heap H locs → lv_has ls 5 [(4, .int s_1.2), (2, .long s_1.1), (0, .ref h0), (1, .int p1)] → W p l e (headSpec wsX0_readLong ({ frames := 1, cells := 0, slots := 0, locals := 40 })).room s m ([.ref h0, .int p1] : List Value).toArray below meth c H locs 0 0 Q (F0 m 5 ls []) := by
    intro n
    induction n with
    | zero => exact fun _ _ _ _ hfn => (zl_0 hfn).elim
    | succ n ih_1 =>
      intro s_1 H locs ls hfn hP hD hS hl
      have hfn := zl_s ebd_1 hfn
      refine lv_iload hx hb dX0_readLong_5 (lv_at hl 0 rfl) ?_
      refine lv_iload_n hx hb dX0_readLong_7 rfl (lv_at hl 3 rfl) ?_
      refine lv_bipush (v := 8) hx hb dX0_readLong_8 zcb_8 ?_
      refine lv_iadd hx hb dX0_readLong_10 ?_
      refine lv_icmp_ge (tgt := 42) hx hb dX0_readLong_11 (of_decide_eq_true rfl) (fun c_2 => ?_) (fun c_2 => ?_)
      · have hfn := (if_pos c_2).symm.trans hfn
        refine lv_ldc2 (v := (-1000000000000)) hx hb hown (hts (.constantLong RX0 110 (-1000000000000)) zw_X0_readLong_24) dX0_readLong_42 ?_
        refine lv_ldc2 (v := 1000000000000) hx hb hown (hts (.constantLong RX0 112 (1000000000000)) zw_X0_readLong_25) dX0_readLong_45 ?_
        refine lv_lload_n hx hb dX0_readLong_48 rfl (lv_at hl 1 rfl) ?_
        refine va_mmin_long hx hb (by rw [hml]; exact hl.1.symm) hown (hts (.methodLink RX0 114 Lib.MathLoose.min_long.x) zw_X0_readLong_26) (hts (.static Lib.MathLoose.min_long.x) zw_X0_readLong_27) (hts (.initialized "java/lang/Math") zw_X0_readLong_28) (hts (.code Lib.MathLoose.min_long.x Lib.MathLoose.min_long.code 4 (some .long)) zw_X0_readLong_29) (Nat.le_of_ble_eq_true rfl) (Nat.le_of_ble_eq_true rfl) (Nat.le_of_ble_eq_true rfl) (Nat.le_of_ble_eq_true rfl) dX0_readLong_49 ?_
        refine lv_topl (fun x_3 ex_3 => ?_)
        have hfn := zn_s hfn ex_3
        refine va_mmax_long hx hb (by rw [hml]; exact hl.1.symm) hown (hts (.methodLink RX0 120 Lib.MathLoose.max_long.x) zw_X0_readLong_30) (hts (.static Lib.MathLoose.max_long.x) zw_X0_readLong_31) (hts (.initialized "java/lang/Math") zw_X0_readLong_28) (hts (.code Lib.MathLoose.max_long.x Lib.MathLoose.max_long.code 4 (some .long)) zw_X0_readLong_32) (Nat.le_of_ble_eq_true rfl) (Nat.le_of_ble_eq_true rfl) (Nat.le_of_ble_eq_true rfl) (Nat.le_of_ble_eq_true rfl) dX0_readLong_52 ?_
        refine lv_topl (fun x_4 ex_4 => ?_)
        have hfn := zn_s hfn ex_4
        have ho := Option.some.inj hfn
        subst ho
        exact zrl hx hb hr hK hP hD hS hQ rfl hlocks dX0_readLong_55
      have hfn := (if_neg c_2).symm.trans hfn
      refine lv_iload hx hb dX0_readLong_14 (lv_at hl 0 rfl) ?_
      refine lv_aload_n hx hb dX0_readLong_16 rfl (lv_at hl 2 rfl) ?_
      refine va_alen (v := 1200) hx hb hK hP 0 0 rfl rfl (show Int32.ofNat 1200 = 1200 by decide +kernel) dX0_readLong_17 ?_
      refine lv_icmp_ge (tgt := 42) hx hb dX0_readLong_18 (of_decide_eq_true rfl) (fun c_5 => ?_) (fun c_5 => ?_)
      · have hfn := (if_pos c_5).symm.trans hfn
        refine lv_ldc2 (v := (-1000000000000)) hx hb hown (hts (.constantLong RX0 110 (-1000000000000)) zw_X0_readLong_24) dX0_readLong_42 ?_
        refine lv_ldc2 (v := 1000000000000) hx hb hown (hts (.constantLong RX0 112 (1000000000000)) zw_X0_readLong_25) dX0_readLong_45 ?_
        refine lv_lload_n hx hb dX0_readLong_48 rfl (lv_at hl 1 rfl) ?_
        refine va_mmin_long hx hb (by rw [hml]; exact hl.1.symm) hown (hts (.methodLink RX0 114 Lib.MathLoose.min_long.x) zw_X0_readLong_26) (hts (.static Lib.MathLoose.min_long.x) zw_X0_readLong_27) (hts (.initialized "java/lang/Math") zw_X0_readLong_28) (hts (.code Lib.MathLoose.min_long.x Lib.MathLoose.min_long.code 4 (some .long)) zw_X0_readLong_29) (Nat.le_of_ble_eq_true rfl) (Nat.le_of_ble_eq_true rfl) (Nat.le_of_ble_eq_true rfl) (Nat.le_of_ble_eq_true rfl) dX0_readLong_49 ?_
        refine lv_topl (fun x_6 ex_6 => ?_)
        have hfn := zn_s hfn ex_6
        refine va_mmax_long hx hb (by rw [hml]; exact hl.1.symm) hown (hts (.methodLink RX0 120 Lib.MathLoose.max_long.x) zw_X0_readLong_30) (hts (.static Lib.MathLoose.max_long.x) zw_X0_readLong_31) (hts (.initialized "java/lang/Math") zw_X0_readLong_28) (hts (.code Lib.MathLoose.max_long.x Lib.MathLoose.max_long.code 4 (some .long)) zw_X0_readLong_32) (Nat.le_of_ble_eq_true rfl) (Nat.le_of_ble_eq_true rfl) (Nat.le_of_ble_eq_true rfl) (Nat.le_of_ble_eq_true rfl) dX0_readLong_52 ?_
        refine lv_topl (fun x_7 ex_7 => ?_)
        have hfn := zn_s hfn ex_7
        have ho := Option.some.inj hfn
        subst ho
        exact zrl hx hb hr hK hP hD hS hQ rfl hlocks dX0_readLong_55
      have hfn := (if_neg c_5).symm.trans hfn
      refine lv_lload_n hx hb dX0_readLong_21 rfl (lv_at hl 1 rfl) ?_
      refine lv_bipush (v := 8) hx hb dX0_readLong_22 zcb_8 ?_
      refine lv_lshl (v := (s_1.1 <<< ((8 : Int32).toInt64 &&& 63))) hx hb dX0_readLong_24 rfl ?_
      refine lv_aload_n hx hb dX0_readLong_25 rfl (lv_at hl 2 rfl) ?_
      refine lv_iload hx hb dX0_readLong_26 (lv_at hl 0 rfl) ?_
      obtain ⟨h_8, hfn⟩ := zg_s hfn
      refine va_bald hx hb hK hP 0 0 rfl rfl h_8 dX0_readLong_28 ?_
      refine lv_sipush (v := 255) hx hb dX0_readLong_29 zcs_255 ?_
      refine lv_iand hx hb dX0_readLong_32 ?_
      refine lv_i2l (v := ((f0 s_1.2.toNatClampNeg) &&& 255).toInt64) hx hb dX0_readLong_33 rfl ?_
      refine lv_lor hx hb dX0_readLong_34 ?_
      refine lv_topl (fun x_9 ex_9 => ?_)
      have hfn := zn_s hfn ex_9
      refine lv_lstore_n (lv' := [(2, .long x_9), (4, .int s_1.2), (0, .ref h0), (1, .int p1)]) hx hb dX0_readLong_35 rfl hl (of_decide_eq_true rfl) rfl (fun ls hl => ?_)
      refine lv_iinc (v := (s_1.2 + 1)) (lv' := [(4, .int (s_1.2 + 1)), (2, .long x_9), (0, .ref h0), (1, .int p1)]) hx hb dX0_readLong_36 hl (k := 1) rfl rfl (of_decide_eq_true rfl) rfl (fun ls hl => ?_)
      refine lv_goto (tgt := 5) hx hb dX0_readLong_39 (of_decide_eq_true rfl) ?_
      exact ih_1 (x_9, (s_1.2 + 1)) H locs ls hfn hP hD hS (lv_sub hl [0, 1, 2, 3] rfl)
  exact lp_1 _ (0, p1) s.heap [] ls hfn hP hD hS (lv_sub hl [0, 1, 2, 3] rfl)
theorem zn_X4_madeOf_X4 : ∀ w ∈ wsX40, w ∈ wsX4_madeOf := fun _ h => List.mem_cons_of_mem _ (List.mem_append_right _ h)
theorem zw_X4_madeOf_41 : Cond.fieldLink RX4 36 "ShortEnough$Numbers" "count" "I" ∈ wsX4_madeOf := List.mem_of_getElem? (i := 1) (by decide +kernel)
theorem zw_X4_madeOf_42 : Cond.fieldLink RX4 30 "ShortEnough$Numbers" "made" "[I" ∈ wsX4_madeOf := List.mem_of_getElem? (i := 2) (by decide +kernel)
set_option maxHeartbeats 4000000 in
set_option maxRecDepth 100000 in
theorem zf_X4_madeOf (l : Launch) (dC : Nat → ClassId) (dI : Nat → Nat → Nat) (h0 : Nat) (p1 : Int32) (p2 : Int32) (v0_0 : Int32) (v0_1 : Int32) (r0_2 : Nat) (r0_3 : Nat) (r0_4 : Nat) (r0_5 : Nat) (r0_6 : Nat) (r0_7 : Nat) (r0_8 : Nat) (r0_9 : Nat) (k1 : Nat) (f1 : Nat → Int32) (o : Int32) (hfn : fn_X4_madeOf p1 p2 v0_0 f1 = some o) (sz : Nat) : zMi l yX4_madeOf wsX4_madeOf ({ frames := 0, cells := 0, slots := 0, locals := 0 }) (dC, dI) vwCl [.ref h0, .int p1, .int p2] [zV4 h0 v0_0 v0_1 r0_2 r0_3 r0_4 r0_5 r0_6 r0_7 r0_8 r0_9, zVi r0_8 k1 28 f1] [(k1, .int)] (fun r _ => r = o) [zV4 h0 v0_0 v0_1 r0_2 r0_3 r0_4 r0_5 r0_6 r0_7 r0_8 r0_9, zVi r0_8 k1 28 f1] [(k1, .int)] sz := by
  refine zgoi (cc := cX4_madeOf) (maxL := 3) (ret := (some .int)) (C0 := RX4) (lv0 := [(0, .ref h0), (1, .int p1), (2, .int p2)]) zpl_X4 rfl rfl rfl (Nat.le_of_ble_eq_true rfl) ?_
  intro p e s m below meth c A ls Q hx hb hr hts hown hlocks hml hP hK hD hA hS hl hQ
  unfold fn_X4_madeOf at hfn
  refine lv_iload_n hx hb dX4_madeOf_0 rfl (lv_at hl 1 rfl) ?_
  refine lv_if_lt (tgt := 34) hx hb dX4_madeOf_1 (of_decide_eq_true rfl) (fun c_1 => ?_) (fun c_1 => ?_)
  · have hfn := (if_pos c_1).symm.trans hfn
    refine lv_iconst (v := (-1)) hx hb dX4_madeOf_34 zci_m1 ?_
    have ho := Option.some.inj hfn
    subst ho
    exact zri hx hb hr hK hP hD hS hQ rfl hlocks dX4_madeOf_35
  have hfn := (if_neg c_1).symm.trans hfn
  refine lv_iload_n hx hb dX4_madeOf_4 rfl (lv_at hl 1 rfl) ?_
  refine lv_aload_n hx hb dX4_madeOf_5 rfl (lv_at hl 0 rfl) ?_
  refine va_get (D := (dC, dI)) (ci := 4) (v := .int v0_0) (C := RX4) (T := TX4) (N := 10) hx hb hts zn_X4_madeOf_X4 hown hK hP 0 rfl rfl 0 (of_decide_eq_true rfl) (hts (.fieldLink RX4 36 "ShortEnough$Numbers" "count" "I") zw_X4_madeOf_41) (fun _ h9 => h9) rfl dX4_madeOf_6 ?_
  refine lv_icmp_ge (tgt := 34) hx hb dX4_madeOf_9 (of_decide_eq_true rfl) (fun c_2 => ?_) (fun c_2 => ?_)
  · have hfn := (if_pos c_2).symm.trans hfn
    refine lv_iconst (v := (-1)) hx hb dX4_madeOf_34 zci_m1 ?_
    have ho := Option.some.inj hfn
    subst ho
    exact zri hx hb hr hK hP hD hS hQ rfl hlocks dX4_madeOf_35
  have hfn := (if_neg c_2).symm.trans hfn
  refine lv_iload_n hx hb dX4_madeOf_12 rfl (lv_at hl 2 rfl) ?_
  refine lv_if_lt (tgt := 34) hx hb dX4_madeOf_13 (of_decide_eq_true rfl) (fun c_3 => ?_) (fun c_3 => ?_)
  · have hfn := (if_pos c_3).symm.trans hfn
    refine lv_iconst (v := (-1)) hx hb dX4_madeOf_34 zci_m1 ?_
    have ho := Option.some.inj hfn
    subst ho
    exact zri hx hb hr hK hP hD hS hQ rfl hlocks dX4_madeOf_35
  have hfn := (if_neg c_3).symm.trans hfn
  refine lv_iload_n hx hb dX4_madeOf_16 rfl (lv_at hl 2 rfl) ?_
  refine lv_iconst (v := 2) hx hb dX4_madeOf_17 zci_2 ?_
  refine lv_icmp_ge (tgt := 34) hx hb dX4_madeOf_18 (of_decide_eq_true rfl) (fun c_4 => ?_) (fun c_4 => ?_)
  · have hfn := (if_pos c_4).symm.trans hfn
    refine lv_iconst (v := (-1)) hx hb dX4_madeOf_34 zci_m1 ?_
    have ho := Option.some.inj hfn
    subst ho
    exact zri hx hb hr hK hP hD hS hQ rfl hlocks dX4_madeOf_35
  have hfn := (if_neg c_4).symm.trans hfn
  refine lv_aload_n hx hb dX4_madeOf_21 rfl (lv_at hl 0 rfl) ?_
  refine va_get (D := (dC, dI)) (ci := 4) (v := .ref r0_8) (C := RX4) (T := TX4) (N := 10) hx hb hts zn_X4_madeOf_X4 hown hK hP 0 rfl rfl 8 (of_decide_eq_true rfl) (hts (.fieldLink RX4 30 "ShortEnough$Numbers" "made" "[I") zw_X4_madeOf_42) (fun _ h9 => h9) rfl dX4_madeOf_22 ?_
  refine lv_iconst (v := 2) hx hb dX4_madeOf_25 zci_2 ?_
  refine lv_iload_n hx hb dX4_madeOf_26 rfl (lv_at hl 1 rfl) ?_
  refine lv_imul hx hb dX4_madeOf_27 ?_
  refine lv_iload_n hx hb dX4_madeOf_28 rfl (lv_at hl 2 rfl) ?_
  refine lv_iadd hx hb dX4_madeOf_29 ?_
  obtain ⟨h_5, hfn⟩ := zg_s hfn
  refine va_iald hx hb hK hP 1 0 rfl rfl h_5 dX4_madeOf_30 ?_
  refine lv_goto (tgt := 35) hx hb dX4_madeOf_31 (of_decide_eq_true rfl) ?_
  have ho := Option.some.inj hfn
  subst ho
  exact zri hx hb hr hK hP hD hS hQ rfl hlocks dX4_madeOf_35
theorem zn_X4_amountOf_X4 : ∀ w ∈ wsX40, w ∈ wsX4_amountOf := fun _ h => List.mem_cons_of_mem _ (List.mem_append_right _ h)
theorem zw_X4_amountOf_44 : Cond.fieldLink RX4 36 "ShortEnough$Numbers" "count" "I" ∈ wsX4_amountOf := List.mem_of_getElem? (i := 1) (by decide +kernel)
theorem zw_X4_amountOf_45 : Cond.fieldLink RX4 33 "ShortEnough$Numbers" "amount" "[I" ∈ wsX4_amountOf := List.mem_of_getElem? (i := 2) (by decide +kernel)
set_option maxHeartbeats 4000000 in
set_option maxRecDepth 100000 in
theorem zf_X4_amountOf (l : Launch) (dC : Nat → ClassId) (dI : Nat → Nat → Nat) (h0 : Nat) (p1 : Int32) (p2 : Int32) (v0_0 : Int32) (v0_1 : Int32) (r0_2 : Nat) (r0_3 : Nat) (r0_4 : Nat) (r0_5 : Nat) (r0_6 : Nat) (r0_7 : Nat) (r0_8 : Nat) (r0_9 : Nat) (k1 : Nat) (f1 : Nat → Int32) (o : Int64) (hfn : fn_X4_amountOf p1 p2 v0_0 f1 = some o) (sz : Nat) : zMl l yX4_amountOf wsX4_amountOf ({ frames := 0, cells := 0, slots := 0, locals := 0 }) (dC, dI) vwCl [.ref h0, .int p1, .int p2] [zV4 h0 v0_0 v0_1 r0_2 r0_3 r0_4 r0_5 r0_6 r0_7 r0_8 r0_9, zVi r0_9 k1 28 f1] [(k1, .int)] (fun r _ => r = o) [zV4 h0 v0_0 v0_1 r0_2 r0_3 r0_4 r0_5 r0_6 r0_7 r0_8 r0_9, zVi r0_9 k1 28 f1] [(k1, .int)] sz := by
  refine zgol (cc := cX4_amountOf) (maxL := 3) (ret := (some .long)) (C0 := RX4) (lv0 := [(0, .ref h0), (1, .int p1), (2, .int p2)]) zpl_X4 rfl rfl rfl (Nat.le_of_ble_eq_true rfl) ?_
  intro p e s m below meth c A ls Q hx hb hr hts hown hlocks hml hP hK hD hA hS hl hQ
  unfold fn_X4_amountOf at hfn
  refine lv_iload_n hx hb dX4_amountOf_0 rfl (lv_at hl 1 rfl) ?_
  refine lv_if_lt (tgt := 35) hx hb dX4_amountOf_1 (of_decide_eq_true rfl) (fun c_1 => ?_) (fun c_1 => ?_)
  · have hfn := (if_pos c_1).symm.trans hfn
    refine lv_lconst (v := 0) hx hb dX4_amountOf_35 (by decide +kernel) ?_
    have ho := Option.some.inj hfn
    subst ho
    exact zrl hx hb hr hK hP hD hS hQ rfl hlocks dX4_amountOf_36
  have hfn := (if_neg c_1).symm.trans hfn
  refine lv_iload_n hx hb dX4_amountOf_4 rfl (lv_at hl 1 rfl) ?_
  refine lv_aload_n hx hb dX4_amountOf_5 rfl (lv_at hl 0 rfl) ?_
  refine va_get (D := (dC, dI)) (ci := 4) (v := .int v0_0) (C := RX4) (T := TX4) (N := 10) hx hb hts zn_X4_amountOf_X4 hown hK hP 0 rfl rfl 0 (of_decide_eq_true rfl) (hts (.fieldLink RX4 36 "ShortEnough$Numbers" "count" "I") zw_X4_amountOf_44) (fun _ h9 => h9) rfl dX4_amountOf_6 ?_
  refine lv_icmp_ge (tgt := 35) hx hb dX4_amountOf_9 (of_decide_eq_true rfl) (fun c_2 => ?_) (fun c_2 => ?_)
  · have hfn := (if_pos c_2).symm.trans hfn
    refine lv_lconst (v := 0) hx hb dX4_amountOf_35 (by decide +kernel) ?_
    have ho := Option.some.inj hfn
    subst ho
    exact zrl hx hb hr hK hP hD hS hQ rfl hlocks dX4_amountOf_36
  have hfn := (if_neg c_2).symm.trans hfn
  refine lv_iload_n hx hb dX4_amountOf_12 rfl (lv_at hl 2 rfl) ?_
  refine lv_if_lt (tgt := 35) hx hb dX4_amountOf_13 (of_decide_eq_true rfl) (fun c_3 => ?_) (fun c_3 => ?_)
  · have hfn := (if_pos c_3).symm.trans hfn
    refine lv_lconst (v := 0) hx hb dX4_amountOf_35 (by decide +kernel) ?_
    have ho := Option.some.inj hfn
    subst ho
    exact zrl hx hb hr hK hP hD hS hQ rfl hlocks dX4_amountOf_36
  have hfn := (if_neg c_3).symm.trans hfn
  refine lv_iload_n hx hb dX4_amountOf_16 rfl (lv_at hl 2 rfl) ?_
  refine lv_iconst (v := 2) hx hb dX4_amountOf_17 zci_2 ?_
  refine lv_icmp_ge (tgt := 35) hx hb dX4_amountOf_18 (of_decide_eq_true rfl) (fun c_4 => ?_) (fun c_4 => ?_)
  · have hfn := (if_pos c_4).symm.trans hfn
    refine lv_lconst (v := 0) hx hb dX4_amountOf_35 (by decide +kernel) ?_
    have ho := Option.some.inj hfn
    subst ho
    exact zrl hx hb hr hK hP hD hS hQ rfl hlocks dX4_amountOf_36
  have hfn := (if_neg c_4).symm.trans hfn
  refine lv_aload_n hx hb dX4_amountOf_21 rfl (lv_at hl 0 rfl) ?_
  refine va_get (D := (dC, dI)) (ci := 4) (v := .ref r0_9) (C := RX4) (T := TX4) (N := 10) hx hb hts zn_X4_amountOf_X4 hown hK hP 0 rfl rfl 9 (of_decide_eq_true rfl) (hts (.fieldLink RX4 33 "ShortEnough$Numbers" "amount" "[I") zw_X4_amountOf_45) (fun _ h9 => h9) rfl dX4_amountOf_22 ?_
  refine lv_iconst (v := 2) hx hb dX4_amountOf_25 zci_2 ?_
  refine lv_iload_n hx hb dX4_amountOf_26 rfl (lv_at hl 1 rfl) ?_
  refine lv_imul hx hb dX4_amountOf_27 ?_
  refine lv_iload_n hx hb dX4_amountOf_28 rfl (lv_at hl 2 rfl) ?_
  refine lv_iadd hx hb dX4_amountOf_29 ?_
  obtain ⟨h_5, hfn⟩ := zg_s hfn
  refine va_iald hx hb hK hP 1 0 rfl rfl h_5 dX4_amountOf_30 ?_
  refine lv_i2l (v := (f1 ((2 * p1) + p2).toNatClampNeg).toInt64) hx hb dX4_amountOf_31 rfl ?_
  refine lv_goto (tgt := 36) hx hb dX4_amountOf_32 (of_decide_eq_true rfl) ?_
  have ho := Option.some.inj hfn
  subst ho
  exact zrl hx hb hr hK hP hD hS hQ rfl hlocks dX4_amountOf_36
theorem zn_X6_lowOf_X6 : ∀ w ∈ wsX60, w ∈ wsX6_lowOf := fun _ h => List.mem_cons_of_mem _ (List.mem_append_left _ (List.mem_append_right _ h))
theorem zw_X6_lowOf_47 : Cond.fieldLink RX6 9 "ShortEnough$Ranges" "low" "[J" ∈ wsX6_lowOf := List.mem_of_getElem? (i := 1) (by decide +kernel)
set_option maxHeartbeats 4000000 in
set_option maxRecDepth 100000 in
theorem zf_X6_lowOf (l : Launch) (dC : Nat → ClassId) (dI : Nat → Nat → Nat) (h0 : Nat) (h1 : Nat) (p2 : Int32) (p3 : Int32) (r0_0 : Nat) (r0_1 : Nat) (r0_2 : Nat) (v1_0 : Int32) (v1_1 : Int32) (r1_2 : Nat) (r1_3 : Nat) (r1_4 : Nat) (r1_5 : Nat) (r1_6 : Nat) (r1_7 : Nat) (r1_8 : Nat) (r1_9 : Nat) (k2 : Nat) (f2 : Nat → Int32) (k3 : Nat) (f3 : Nat → Int32) (k4 : Nat) (f4 : Nat → Int64) (o : Int64) (hfn : fn_X6_lowOf p2 p3 v1_0 f2 f3 f4 = some o) (sz : Nat) : zMl l yX6_lowOf wsX6_lowOf ({ frames := 1, cells := 0, slots := 0, locals := 22 }) (dC, dI) vwCl [.ref h0, .ref h1, .int p2, .int p3] [zV6 h0 r0_0 r0_1 r0_2, zV4 h1 v1_0 v1_1 r1_2 r1_3 r1_4 r1_5 r1_6 r1_7 r1_8 r1_9, zVi r1_8 k2 28 f2, zVi r1_9 k3 28 f3, zVl r0_0 k4 14 f4] [(k2, .int), (k3, .int), (k4, .long)] (fun r _ => r = o) [zV6 h0 r0_0 r0_1 r0_2, zV4 h1 v1_0 v1_1 r1_2 r1_3 r1_4 r1_5 r1_6 r1_7 r1_8 r1_9, zVi r1_8 k2 28 f2, zVi r1_9 k3 28 f3, zVl r0_0 k4 14 f4] [(k2, .int), (k3, .int), (k4, .long)] sz := by
  refine zgol (cc := cX6_lowOf) (maxL := 5) (ret := (some .long)) (C0 := RX6) (lv0 := [(0, .ref h0), (1, .ref h1), (2, .int p2), (3, .int p3)]) zpl_X6 rfl rfl rfl (Nat.le_of_ble_eq_true rfl) ?_
  intro p e s m below meth c A ls Q hx hb hr hts hown hlocks hml hP hK hD hA hS hl hQ
  unfold fn_X6_lowOf at hfn
  refine lv_aload_n hx hb dX6_lowOf_0 rfl (lv_at hl 1 rfl) ?_
  refine lv_iload_n hx hb dX6_lowOf_1 rfl (lv_at hl 2 rfl) ?_
  refine lv_iload_n hx hb dX6_lowOf_2 rfl (lv_at hl 3 rfl) ?_
  obtain ⟨o_1, hqo_1, hfn⟩ := zb_s hfn
  refine zcVi (ci := 4) (rest := []) (pc' := 6) (ws' := [zV6 h0 r0_0 r0_1 r0_2, zV4 h1 v1_0 v1_1 r1_2 r1_3 r1_4 r1_5 r1_6 r1_7 r1_8 r1_9, zVi r1_8 k2 28 f2, zVi r1_9 k3 28 f3, zVl r0_0 k4 14 f4]) hP hK hD hS hA ⟨hx, hb, hml, hown, hts⟩ (zf_X4_madeOf l dC dI h1 p2 p3 v1_0 v1_1 r1_2 r1_3 r1_4 r1_5 r1_6 r1_7 r1_8 r1_9 k2 f2 o_1 hqo_1 s.heap.size) (cwV 2 hts gX6_lowOf_X4_madeOf rfl rfl rfl zhd_X4_madeOf ⟨Nat.le_of_ble_eq_true rfl, Nat.le_of_ble_eq_true rfl⟩) [1, 2] rfl (of_decide_eq_true rfl) [0] rfl rfl rfl rfl hl.1 rfl (Nat.le_of_ble_eq_true rfl) dX6_lowOf_3 ⟨Nat.le_of_ble_eq_true rfl, Nat.le_of_ble_eq_true rfl⟩ [none, some 0, some 1] (of_decide_eq_true rfl) (of_decide_eq_true rfl) rfl rfl rfl (fun H locs hP hD hS => ?_)
  refine lv_istore (lv' := [(4, .int o_1), (0, .ref h0), (1, .ref h1), (2, .int p2), (3, .int p3)]) hx hb dX6_lowOf_6 hl (of_decide_eq_true rfl) rfl (fun ls hl => ?_)
  refine lv_iload hx hb dX6_lowOf_8 (lv_at hl 0 rfl) ?_
  refine lv_if_lt (tgt := 29) hx hb dX6_lowOf_10 (of_decide_eq_true rfl) (fun c_5 => ?_) (fun c_5 => ?_)
  · have hfn := (if_pos c_5).symm.trans hfn
    refine lv_aload_n hx hb dX6_lowOf_29 rfl (lv_at hl 2 rfl) ?_
    refine lv_iload_n hx hb dX6_lowOf_30 rfl (lv_at hl 3 rfl) ?_
    refine lv_iload_n hx hb dX6_lowOf_31 rfl (lv_at hl 4 rfl) ?_
    obtain ⟨o_6, hqo_6, hfn⟩ := zb_s hfn
    refine zcVl (ci := 4) (rest := []) (pc' := 35) (ws' := [zV6 h0 r0_0 r0_1 r0_2, zV4 h1 v1_0 v1_1 r1_2 r1_3 r1_4 r1_5 r1_6 r1_7 r1_8 r1_9, zVi r1_8 k2 28 f2, zVi r1_9 k3 28 f3, zVl r0_0 k4 14 f4]) hP hK hD hS hA ⟨hx, hb, hml, hown, hts⟩ (zf_X4_amountOf l dC dI h1 p2 p3 v1_0 v1_1 r1_2 r1_3 r1_4 r1_5 r1_6 r1_7 r1_8 r1_9 k3 f3 o_6 hqo_6 H.size) (cwV 2 hts gX6_lowOf_X4_amountOf rfl rfl rfl zhd_X4_amountOf ⟨Nat.le_of_ble_eq_true rfl, Nat.le_of_ble_eq_true rfl⟩) [1, 3] rfl (of_decide_eq_true rfl) [1] rfl rfl rfl rfl hl.1 rfl (Nat.le_of_ble_eq_true rfl) dX6_lowOf_32 ⟨Nat.le_of_ble_eq_true rfl, Nat.le_of_ble_eq_true rfl⟩ [none, some 0, none, some 1] (of_decide_eq_true rfl) (of_decide_eq_true rfl) rfl rfl rfl (fun H locs hP hD hS => ?_)
    have ho := Option.some.inj hfn
    subst ho
    exact zrl hx hb hr hK hP hD hS hQ rfl hlocks dX6_lowOf_35
  have hfn := (if_neg c_5).symm.trans hfn
  refine lv_iload hx hb dX6_lowOf_13 (lv_at hl 0 rfl) ?_
  refine lv_iload_n hx hb dX6_lowOf_15 rfl (lv_at hl 3 rfl) ?_
  refine lv_icmp_ge (tgt := 29) hx hb dX6_lowOf_16 (of_decide_eq_true rfl) (fun c_10 => ?_) (fun c_10 => ?_)
  · have hfn := (if_pos c_10).symm.trans hfn
    refine lv_aload_n hx hb dX6_lowOf_29 rfl (lv_at hl 2 rfl) ?_
    refine lv_iload_n hx hb dX6_lowOf_30 rfl (lv_at hl 3 rfl) ?_
    refine lv_iload_n hx hb dX6_lowOf_31 rfl (lv_at hl 4 rfl) ?_
    obtain ⟨o_11, hqo_11, hfn⟩ := zb_s hfn
    refine zcVl (ci := 4) (rest := []) (pc' := 35) (ws' := [zV6 h0 r0_0 r0_1 r0_2, zV4 h1 v1_0 v1_1 r1_2 r1_3 r1_4 r1_5 r1_6 r1_7 r1_8 r1_9, zVi r1_8 k2 28 f2, zVi r1_9 k3 28 f3, zVl r0_0 k4 14 f4]) hP hK hD hS hA ⟨hx, hb, hml, hown, hts⟩ (zf_X4_amountOf l dC dI h1 p2 p3 v1_0 v1_1 r1_2 r1_3 r1_4 r1_5 r1_6 r1_7 r1_8 r1_9 k3 f3 o_11 hqo_11 H.size) (cwV 2 hts gX6_lowOf_X4_amountOf rfl rfl rfl zhd_X4_amountOf ⟨Nat.le_of_ble_eq_true rfl, Nat.le_of_ble_eq_true rfl⟩) [1, 3] rfl (of_decide_eq_true rfl) [1] rfl rfl rfl rfl hl.1 rfl (Nat.le_of_ble_eq_true rfl) dX6_lowOf_32 ⟨Nat.le_of_ble_eq_true rfl, Nat.le_of_ble_eq_true rfl⟩ [none, some 0, none, some 1] (of_decide_eq_true rfl) (of_decide_eq_true rfl) rfl rfl rfl (fun H locs hP hD hS => ?_)
    have ho := Option.some.inj hfn
    subst ho
    exact zrl hx hb hr hK hP hD hS hQ rfl hlocks dX6_lowOf_35
  have hfn := (if_neg c_10).symm.trans hfn
  refine lv_aload_n hx hb dX6_lowOf_19 rfl (lv_at hl 1 rfl) ?_
  refine va_get (D := (dC, dI)) (ci := 6) (v := .ref r0_0) (C := RX6) (T := TX6) (N := 3) hx hb hts zn_X6_lowOf_X6 hown hK hP 0 rfl rfl 0 (of_decide_eq_true rfl) (hts (.fieldLink RX6 9 "ShortEnough$Ranges" "low" "[J") zw_X6_lowOf_47) (fun _ h9 => h9) rfl dX6_lowOf_20 ?_
  refine lv_iload hx hb dX6_lowOf_23 (lv_at hl 0 rfl) ?_
  obtain ⟨h_15, hfn⟩ := zg_s hfn
  refine va_lald hx hb hK hP 4 2 rfl rfl h_15 dX6_lowOf_25 ?_
  refine lv_goto (tgt := 35) hx hb dX6_lowOf_26 (of_decide_eq_true rfl) ?_
  have ho := Option.some.inj hfn
  subst ho
  exact zrl hx hb hr hK hP hD hS hQ rfl hlocks dX6_lowOf_35
theorem zw_X11_nearest_49 : Cond.constantLong RX11 384 (2) ∈ wsX11_nearest := List.mem_of_getElem? (i := 1) (by decide +kernel)
set_option maxHeartbeats 4000000 in
set_option maxRecDepth 100000 in
theorem zf_X11_nearest (l : Launch) (dC : Nat → ClassId) (dI : Nat → Nat → Nat) (j0 : Int64) (j1 : Int64) (j2 : Int64) (o : Int64) (hfn : fn_X11_nearest j0 j1 j2 = some o) (sz : Nat) : zMl l yX11_nearest wsX11_nearest ({ frames := 1, cells := 0, slots := 0, locals := 25 }) (dC, dI) vwCl [.long j0, .long j1, .long j2] [] [] (fun r _ => r = o) [] [] sz := by
  refine zgol (cc := cX11_nearest) (maxL := 8) (ret := (some .long)) (C0 := RX11) (lv0 := [(0, .long j0), (2, .long j1), (4, .long j2)]) zpl_X11 rfl rfl rfl (Nat.le_of_ble_eq_true rfl) ?_
  intro p e s m below meth c A ls Q hx hb hr hts hown hlocks hml hP hK hD hA hS hl hQ
  unfold fn_X11_nearest at hfn
  refine lv_lload_n hx hb dX11_nearest_0 rfl (lv_at hl 1 rfl) ?_
  refine lv_lload hx hb dX11_nearest_1 (lv_at hl 2 rfl) ?_
  refine lv_lmul hx hb dX11_nearest_3 ?_
  refine lv_lstore (lv' := [(6, .long (j1 * j2)), (0, .long j0), (2, .long j1), (4, .long j2)]) hx hb dX11_nearest_4 hl (of_decide_eq_true rfl) rfl (fun ls hl => ?_)
  refine lv_lload hx hb dX11_nearest_6 (lv_at hl 0 rfl) ?_
  refine lv_lconst (v := 1) hx hb dX11_nearest_8 (by decide +kernel) ?_
  refine W.lcmp hx hb dX11_nearest_9 ?_
  refine lv_if_ge (tgt := 17) hx hb dX11_nearest_10 (of_decide_eq_true rfl) (fun c_1 => ?_) (fun c_1 => ?_)
  · have hfn := (if_pos c_1).symm.trans hfn
    refine lv_ldc2 (v := 2) hx hb hown (hts (.constantLong RX11 384 (2)) zw_X11_nearest_49) dX11_nearest_17 ?_
    refine lv_lload_n hx hb dX11_nearest_20 rfl (lv_at hl 1 rfl) ?_
    refine lv_lmul hx hb dX11_nearest_21 ?_
    refine lv_lload hx hb dX11_nearest_22 (lv_at hl 0 rfl) ?_
    refine lv_ladd hx hb dX11_nearest_24 ?_
    refine lv_ldc2 (v := 2) hx hb hown (hts (.constantLong RX11 384 (2)) zw_X11_nearest_49) dX11_nearest_25 ?_
    refine lv_lload hx hb dX11_nearest_28 (lv_at hl 0 rfl) ?_
    refine lv_lmul hx hb dX11_nearest_30 ?_
    obtain ⟨o_2, hqo_2, hfn⟩ := zb_s hfn
    refine zcSl (rest := []) (pc' := 34) (ws' := []) hP hK hD hS hA ⟨hx, hb, hml, hown, hts⟩ (zf_J9_floorDiv_f86c9 l dC dI (((2 : Int64) * j0) + (j1 * j2)) ((2 : Int64) * (j1 * j2)) o_2 hqo_2 s.heap.size) (va_cwS 2 hts gX11_nearest_J9_floorDiv_f86c9 rfl rfl rfl zhd_J9_floorDiv_f86c9.2 ⟨Nat.le_of_ble_eq_true rfl, Nat.le_of_ble_eq_true rfl⟩) [] rfl (of_decide_eq_true rfl) [] rfl rfl hl.1 rfl (Nat.le_of_ble_eq_true rfl) dX11_nearest_31 ⟨Nat.le_of_ble_eq_true rfl, Nat.le_of_ble_eq_true rfl⟩ [] (of_decide_eq_true rfl) (of_decide_eq_true rfl) rfl rfl rfl (fun H locs hP hD hS => ?_)
    refine lv_lload hx hb dX11_nearest_34 (lv_at hl 3 rfl) ?_
    refine lv_lmul hx hb dX11_nearest_36 ?_
    have ho := Option.some.inj hfn
    subst ho
    exact zrl hx hb hr hK hP hD hS hQ rfl hlocks dX11_nearest_37
  have hfn := (if_neg c_1).symm.trans hfn
  refine lv_lconst (v := 0) hx hb dX11_nearest_13 (by decide +kernel) ?_
  refine lv_goto (tgt := 37) hx hb dX11_nearest_14 (of_decide_eq_true rfl) ?_
  have ho := Option.some.inj hfn
  subst ho
  exact zrl hx hb hr hK hP hD hS hQ rfl hlocks dX11_nearest_37
theorem zw_X11_apply_48 : Cond.constantLong RX11 389 (1000) ∈ wsX11_apply := List.mem_of_getElem? (i := 1) (by decide +kernel)
theorem zw_X11_apply_50 : Cond.methodLink RX11 395 Lib.MathLoose.min_long.x ∈ wsX11_apply := List.mem_of_getElem? (i := 2) (by decide +kernel)
theorem zw_X11_apply_51 : Cond.static Lib.MathLoose.min_long.x ∈ wsX11_apply := List.mem_of_getElem? (i := 3) (by decide +kernel)
theorem zw_X11_apply_52 : Cond.initialized "java/lang/Math" ∈ wsX11_apply := List.mem_of_getElem? (i := 4) (by decide +kernel)
theorem zw_X11_apply_53 : Cond.code Lib.MathLoose.min_long.x Lib.MathLoose.min_long.code 4 (some .long) ∈ wsX11_apply := List.mem_of_getElem? (i := 5) (by decide +kernel)
theorem zw_X11_apply_54 : Cond.methodLink RX11 373 Lib.MathLoose.max_long.x ∈ wsX11_apply := List.mem_of_getElem? (i := 6) (by decide +kernel)
theorem zw_X11_apply_55 : Cond.static Lib.MathLoose.max_long.x ∈ wsX11_apply := List.mem_of_getElem? (i := 7) (by decide +kernel)
theorem zw_X11_apply_56 : Cond.code Lib.MathLoose.max_long.x Lib.MathLoose.max_long.code 4 (some .long) ∈ wsX11_apply := List.mem_of_getElem? (i := 8) (by decide +kernel)
set_option maxHeartbeats 4000000 in
set_option maxRecDepth 100000 in
theorem zf_X11_apply (l : Launch) (dC : Nat → ClassId) (dI : Nat → Nat → Nat) (p0 : Int32) (j1 : Int64) (j2 : Int64) (j3 : Int64) (o : Int64) (hfn : fn_X11_apply p0 j1 j2 j3 = some o) (sz : Nat) : zMl l yX11_apply wsX11_apply ({ frames := 2, cells := 0, slots := 0, locals := 52 }) (dC, dI) vwCl [.int p0, .long j1, .long j2, .long j3] [] [] (fun r _ => r = o) [] [] sz := by
  refine zgol (cc := cX11_apply) (maxL := 7) (ret := (some .long)) (C0 := RX11) (lv0 := [(0, .int p0), (1, .long j1), (3, .long j2), (5, .long j3)]) zpl_X11 rfl rfl rfl (Nat.le_of_ble_eq_true rfl) ?_
  intro p e s m below meth c A ls Q hx hb hr hts hown hlocks hml hP hK hD hA hS hl hQ
  unfold fn_X11_apply at hfn
  refine lv_iload_n hx hb dX11_apply_0 rfl (lv_at hl 0 rfl) ?_
  by_cases c_1 : p0 = 1
  · have hfn := (if_pos c_1).symm.trans hfn
    refine W.eq (g2 := F0 m 1 ls [.int 1]) (by rw [c_1]) ?_
    refine lv_tableIn (tgt := 36) (off := 35) hx hb dX11_apply_1 (by decide +kernel) (by decide +kernel) (by decide +kernel) (of_decide_eq_true rfl) ?_
    refine lv_lload_n hx hb dX11_apply_36 rfl (lv_at hl 1 rfl) ?_
    refine lv_lload_n hx hb dX11_apply_37 rfl (lv_at hl 2 rfl) ?_
    refine lv_ladd hx hb dX11_apply_38 ?_
    have ho := Option.some.inj hfn
    subst ho
    exact zrl hx hb hr hK hP hD hS hQ rfl hlocks dX11_apply_39
  have hfn := (if_neg c_1).symm.trans hfn
  have oc_1 := zk_ne rfl (by decide +kernel : (1 : Int32).toInt = 1) c_1
  by_cases c_2 : p0 = 2
  · have hfn := (if_pos c_2).symm.trans hfn
    refine W.eq (g2 := F0 m 1 ls [.int 2]) (by rw [c_2]) ?_
    refine lv_tableIn (tgt := 40) (off := 39) hx hb dX11_apply_1 (by decide +kernel) (by decide +kernel) (by decide +kernel) (of_decide_eq_true rfl) ?_
    refine lv_lload_n hx hb dX11_apply_40 rfl (lv_at hl 1 rfl) ?_
    refine lv_lload_n hx hb dX11_apply_41 rfl (lv_at hl 2 rfl) ?_
    refine lv_lsub hx hb dX11_apply_42 ?_
    have ho := Option.some.inj hfn
    subst ho
    exact zrl hx hb hr hK hP hD hS hQ rfl hlocks dX11_apply_43
  have hfn := (if_neg c_2).symm.trans hfn
  have oc_2 := zk_ne rfl (by decide +kernel : (2 : Int32).toInt = 2) c_2
  by_cases c_3 : p0 = 3
  · have hfn := (if_pos c_3).symm.trans hfn
    refine W.eq (g2 := F0 m 1 ls [.int 3]) (by rw [c_3]) ?_
    refine lv_tableIn (tgt := 44) (off := 43) hx hb dX11_apply_1 (by decide +kernel) (by decide +kernel) (by decide +kernel) (of_decide_eq_true rfl) ?_
    refine lv_lload_n hx hb dX11_apply_44 rfl (lv_at hl 1 rfl) ?_
    refine lv_lload_n hx hb dX11_apply_45 rfl (lv_at hl 2 rfl) ?_
    refine lv_lmul hx hb dX11_apply_46 ?_
    refine lv_ldc2 (v := 1000) hx hb hown (hts (.constantLong RX11 389 (1000)) zw_X11_apply_48) dX11_apply_47 ?_
    refine lv_lload hx hb dX11_apply_50 (lv_at hl 3 rfl) ?_
    obtain ⟨o_4, hqo_4, hfn⟩ := zb_s hfn
    refine zcSl (rest := []) (pc' := 55) (ws' := []) hP hK hD hS hA ⟨hx, hb, hml, hown, hts⟩ (zf_X11_nearest l dC dI (j1 * j2) (1000 : Int64) j3 o_4 hqo_4 s.heap.size) (va_cwS 3 hts gX11_apply_X11_nearest rfl rfl rfl zhd_X11_nearest.2 ⟨Nat.le_of_ble_eq_true rfl, Nat.le_of_ble_eq_true rfl⟩) [] rfl (of_decide_eq_true rfl) [] rfl rfl hl.1 rfl (Nat.le_of_ble_eq_true rfl) dX11_apply_52 ⟨Nat.le_of_ble_eq_true rfl, Nat.le_of_ble_eq_true rfl⟩ [] (of_decide_eq_true rfl) (of_decide_eq_true rfl) rfl rfl rfl (fun H locs hP hD hS => ?_)
    have ho := Option.some.inj hfn
    subst ho
    exact zrl hx hb hr hK hP hD hS hQ rfl hlocks dX11_apply_55
  have hfn := (if_neg c_3).symm.trans hfn
  have oc_3 := zk_ne rfl (by decide +kernel : (3 : Int32).toInt = 3) c_3
  by_cases c_8 : p0 = 4
  · have hfn := (if_pos c_8).symm.trans hfn
    refine W.eq (g2 := F0 m 1 ls [.int 4]) (by rw [c_8]) ?_
    refine lv_tableIn (tgt := 56) (off := 55) hx hb dX11_apply_1 (by decide +kernel) (by decide +kernel) (by decide +kernel) (of_decide_eq_true rfl) ?_
    refine lv_lload_n hx hb dX11_apply_56 rfl (lv_at hl 1 rfl) ?_
    refine lv_lload_n hx hb dX11_apply_57 rfl (lv_at hl 2 rfl) ?_
    refine va_mmin_long hx hb (by rw [hml]; exact hl.1.symm) hown (hts (.methodLink RX11 395 Lib.MathLoose.min_long.x) zw_X11_apply_50) (hts (.static Lib.MathLoose.min_long.x) zw_X11_apply_51) (hts (.initialized "java/lang/Math") zw_X11_apply_52) (hts (.code Lib.MathLoose.min_long.x Lib.MathLoose.min_long.code 4 (some .long)) zw_X11_apply_53) (Nat.le_of_ble_eq_true rfl) (Nat.le_of_ble_eq_true rfl) (Nat.le_of_ble_eq_true rfl) (Nat.le_of_ble_eq_true rfl) dX11_apply_58 ?_
    have ho := Option.some.inj hfn
    subst ho
    exact zrl hx hb hr hK hP hD hS hQ rfl hlocks dX11_apply_61
  have hfn := (if_neg c_8).symm.trans hfn
  have oc_8 := zk_ne rfl (by decide +kernel : (4 : Int32).toInt = 4) c_8
  by_cases c_9 : p0 = 5
  · have hfn := (if_pos c_9).symm.trans hfn
    refine W.eq (g2 := F0 m 1 ls [.int 5]) (by rw [c_9]) ?_
    refine lv_tableIn (tgt := 62) (off := 61) hx hb dX11_apply_1 (by decide +kernel) (by decide +kernel) (by decide +kernel) (of_decide_eq_true rfl) ?_
    refine lv_lload_n hx hb dX11_apply_62 rfl (lv_at hl 1 rfl) ?_
    refine lv_lload_n hx hb dX11_apply_63 rfl (lv_at hl 2 rfl) ?_
    refine va_mmax_long hx hb (by rw [hml]; exact hl.1.symm) hown (hts (.methodLink RX11 373 Lib.MathLoose.max_long.x) zw_X11_apply_54) (hts (.static Lib.MathLoose.max_long.x) zw_X11_apply_55) (hts (.initialized "java/lang/Math") zw_X11_apply_52) (hts (.code Lib.MathLoose.max_long.x Lib.MathLoose.max_long.code 4 (some .long)) zw_X11_apply_56) (Nat.le_of_ble_eq_true rfl) (Nat.le_of_ble_eq_true rfl) (Nat.le_of_ble_eq_true rfl) (Nat.le_of_ble_eq_true rfl) dX11_apply_64 ?_
    have ho := Option.some.inj hfn
    subst ho
    exact zrl hx hb hr hK hP hD hS hQ rfl hlocks dX11_apply_67
  have hfn := (if_neg c_9).symm.trans hfn
  have oc_9 := zk_ne rfl (by decide +kernel : (5 : Int32).toInt = 5) c_9
  refine lv_tableOut (tgt := 68) hx hb dX11_apply_1 (by omega) (of_decide_eq_true rfl) ?_
  refine lv_lload_n hx hb dX11_apply_68 rfl (lv_at hl 1 rfl) ?_
  have ho := Option.some.inj hfn
  subst ho
  exact zrl hx hb hr hK hP hD hS hQ rfl hlocks dX11_apply_69
theorem zn_X6_highOf_X6 : ∀ w ∈ wsX60, w ∈ wsX6_highOf := fun _ h => List.mem_cons_of_mem _ (List.mem_append_left _ (List.mem_append_right _ h))
theorem zw_X6_highOf_60 : Cond.fieldLink RX6 15 "ShortEnough$Ranges" "high" "[J" ∈ wsX6_highOf := List.mem_of_getElem? (i := 1) (by decide +kernel)
set_option maxHeartbeats 4000000 in
set_option maxRecDepth 100000 in
theorem zf_X6_highOf (l : Launch) (dC : Nat → ClassId) (dI : Nat → Nat → Nat) (h0 : Nat) (h1 : Nat) (p2 : Int32) (p3 : Int32) (r0_0 : Nat) (r0_1 : Nat) (r0_2 : Nat) (v1_0 : Int32) (v1_1 : Int32) (r1_2 : Nat) (r1_3 : Nat) (r1_4 : Nat) (r1_5 : Nat) (r1_6 : Nat) (r1_7 : Nat) (r1_8 : Nat) (r1_9 : Nat) (k2 : Nat) (f2 : Nat → Int32) (k3 : Nat) (f3 : Nat → Int32) (k4 : Nat) (f4 : Nat → Int64) (o : Int64) (hfn : fn_X6_highOf p2 p3 v1_0 f2 f3 f4 = some o) (sz : Nat) : zMl l yX6_highOf wsX6_highOf ({ frames := 1, cells := 0, slots := 0, locals := 22 }) (dC, dI) vwCl [.ref h0, .ref h1, .int p2, .int p3] [zV6 h0 r0_0 r0_1 r0_2, zV4 h1 v1_0 v1_1 r1_2 r1_3 r1_4 r1_5 r1_6 r1_7 r1_8 r1_9, zVi r1_8 k2 28 f2, zVi r1_9 k3 28 f3, zVl r0_1 k4 14 f4] [(k2, .int), (k3, .int), (k4, .long)] (fun r _ => r = o) [zV6 h0 r0_0 r0_1 r0_2, zV4 h1 v1_0 v1_1 r1_2 r1_3 r1_4 r1_5 r1_6 r1_7 r1_8 r1_9, zVi r1_8 k2 28 f2, zVi r1_9 k3 28 f3, zVl r0_1 k4 14 f4] [(k2, .int), (k3, .int), (k4, .long)] sz := by
  refine zgol (cc := cX6_highOf) (maxL := 5) (ret := (some .long)) (C0 := RX6) (lv0 := [(0, .ref h0), (1, .ref h1), (2, .int p2), (3, .int p3)]) zpl_X6 rfl rfl rfl (Nat.le_of_ble_eq_true rfl) ?_
  intro p e s m below meth c A ls Q hx hb hr hts hown hlocks hml hP hK hD hA hS hl hQ
  unfold fn_X6_highOf at hfn
  refine lv_aload_n hx hb dX6_highOf_0 rfl (lv_at hl 1 rfl) ?_
  refine lv_iload_n hx hb dX6_highOf_1 rfl (lv_at hl 2 rfl) ?_
  refine lv_iload_n hx hb dX6_highOf_2 rfl (lv_at hl 3 rfl) ?_
  obtain ⟨o_1, hqo_1, hfn⟩ := zb_s hfn
  refine zcVi (ci := 4) (rest := []) (pc' := 6) (ws' := [zV6 h0 r0_0 r0_1 r0_2, zV4 h1 v1_0 v1_1 r1_2 r1_3 r1_4 r1_5 r1_6 r1_7 r1_8 r1_9, zVi r1_8 k2 28 f2, zVi r1_9 k3 28 f3, zVl r0_1 k4 14 f4]) hP hK hD hS hA ⟨hx, hb, hml, hown, hts⟩ (zf_X4_madeOf l dC dI h1 p2 p3 v1_0 v1_1 r1_2 r1_3 r1_4 r1_5 r1_6 r1_7 r1_8 r1_9 k2 f2 o_1 hqo_1 s.heap.size) (cwV 2 hts gX6_highOf_X4_madeOf rfl rfl rfl zhd_X4_madeOf ⟨Nat.le_of_ble_eq_true rfl, Nat.le_of_ble_eq_true rfl⟩) [1, 2] rfl (of_decide_eq_true rfl) [0] rfl rfl rfl rfl hl.1 rfl (Nat.le_of_ble_eq_true rfl) dX6_highOf_3 ⟨Nat.le_of_ble_eq_true rfl, Nat.le_of_ble_eq_true rfl⟩ [none, some 0, some 1] (of_decide_eq_true rfl) (of_decide_eq_true rfl) rfl rfl rfl (fun H locs hP hD hS => ?_)
  refine lv_istore (lv' := [(4, .int o_1), (0, .ref h0), (1, .ref h1), (2, .int p2), (3, .int p3)]) hx hb dX6_highOf_6 hl (of_decide_eq_true rfl) rfl (fun ls hl => ?_)
  refine lv_iload hx hb dX6_highOf_8 (lv_at hl 0 rfl) ?_
  refine lv_if_lt (tgt := 29) hx hb dX6_highOf_10 (of_decide_eq_true rfl) (fun c_5 => ?_) (fun c_5 => ?_)
  · have hfn := (if_pos c_5).symm.trans hfn
    refine lv_aload_n hx hb dX6_highOf_29 rfl (lv_at hl 2 rfl) ?_
    refine lv_iload_n hx hb dX6_highOf_30 rfl (lv_at hl 3 rfl) ?_
    refine lv_iload_n hx hb dX6_highOf_31 rfl (lv_at hl 4 rfl) ?_
    obtain ⟨o_6, hqo_6, hfn⟩ := zb_s hfn
    refine zcVl (ci := 4) (rest := []) (pc' := 35) (ws' := [zV6 h0 r0_0 r0_1 r0_2, zV4 h1 v1_0 v1_1 r1_2 r1_3 r1_4 r1_5 r1_6 r1_7 r1_8 r1_9, zVi r1_8 k2 28 f2, zVi r1_9 k3 28 f3, zVl r0_1 k4 14 f4]) hP hK hD hS hA ⟨hx, hb, hml, hown, hts⟩ (zf_X4_amountOf l dC dI h1 p2 p3 v1_0 v1_1 r1_2 r1_3 r1_4 r1_5 r1_6 r1_7 r1_8 r1_9 k3 f3 o_6 hqo_6 H.size) (cwV 2 hts gX6_highOf_X4_amountOf rfl rfl rfl zhd_X4_amountOf ⟨Nat.le_of_ble_eq_true rfl, Nat.le_of_ble_eq_true rfl⟩) [1, 3] rfl (of_decide_eq_true rfl) [1] rfl rfl rfl rfl hl.1 rfl (Nat.le_of_ble_eq_true rfl) dX6_highOf_32 ⟨Nat.le_of_ble_eq_true rfl, Nat.le_of_ble_eq_true rfl⟩ [none, some 0, none, some 1] (of_decide_eq_true rfl) (of_decide_eq_true rfl) rfl rfl rfl (fun H locs hP hD hS => ?_)
    have ho := Option.some.inj hfn
    subst ho
    exact zrl hx hb hr hK hP hD hS hQ rfl hlocks dX6_highOf_35
  have hfn := (if_neg c_5).symm.trans hfn
  refine lv_iload hx hb dX6_highOf_13 (lv_at hl 0 rfl) ?_
  refine lv_iload_n hx hb dX6_highOf_15 rfl (lv_at hl 3 rfl) ?_
  refine lv_icmp_ge (tgt := 29) hx hb dX6_highOf_16 (of_decide_eq_true rfl) (fun c_10 => ?_) (fun c_10 => ?_)
  · have hfn := (if_pos c_10).symm.trans hfn
    refine lv_aload_n hx hb dX6_highOf_29 rfl (lv_at hl 2 rfl) ?_
    refine lv_iload_n hx hb dX6_highOf_30 rfl (lv_at hl 3 rfl) ?_
    refine lv_iload_n hx hb dX6_highOf_31 rfl (lv_at hl 4 rfl) ?_
    obtain ⟨o_11, hqo_11, hfn⟩ := zb_s hfn
    refine zcVl (ci := 4) (rest := []) (pc' := 35) (ws' := [zV6 h0 r0_0 r0_1 r0_2, zV4 h1 v1_0 v1_1 r1_2 r1_3 r1_4 r1_5 r1_6 r1_7 r1_8 r1_9, zVi r1_8 k2 28 f2, zVi r1_9 k3 28 f3, zVl r0_1 k4 14 f4]) hP hK hD hS hA ⟨hx, hb, hml, hown, hts⟩ (zf_X4_amountOf l dC dI h1 p2 p3 v1_0 v1_1 r1_2 r1_3 r1_4 r1_5 r1_6 r1_7 r1_8 r1_9 k3 f3 o_11 hqo_11 H.size) (cwV 2 hts gX6_highOf_X4_amountOf rfl rfl rfl zhd_X4_amountOf ⟨Nat.le_of_ble_eq_true rfl, Nat.le_of_ble_eq_true rfl⟩) [1, 3] rfl (of_decide_eq_true rfl) [1] rfl rfl rfl rfl hl.1 rfl (Nat.le_of_ble_eq_true rfl) dX6_highOf_32 ⟨Nat.le_of_ble_eq_true rfl, Nat.le_of_ble_eq_true rfl⟩ [none, some 0, none, some 1] (of_decide_eq_true rfl) (of_decide_eq_true rfl) rfl rfl rfl (fun H locs hP hD hS => ?_)
    have ho := Option.some.inj hfn
    subst ho
    exact zrl hx hb hr hK hP hD hS hQ rfl hlocks dX6_highOf_35
  have hfn := (if_neg c_10).symm.trans hfn
  refine lv_aload_n hx hb dX6_highOf_19 rfl (lv_at hl 1 rfl) ?_
  refine va_get (D := (dC, dI)) (ci := 6) (v := .ref r0_1) (C := RX6) (T := TX6) (N := 3) hx hb hts zn_X6_highOf_X6 hown hK hP 0 rfl rfl 1 (of_decide_eq_true rfl) (hts (.fieldLink RX6 15 "ShortEnough$Ranges" "high" "[J") zw_X6_highOf_60) (fun _ h9 => h9) rfl dX6_highOf_20 ?_
  refine lv_iload hx hb dX6_highOf_23 (lv_at hl 0 rfl) ?_
  obtain ⟨h_15, hfn⟩ := zg_s hfn
  refine va_lald hx hb hK hP 4 2 rfl rfl h_15 dX6_highOf_25 ?_
  refine lv_goto (tgt := 35) hx hb dX6_highOf_26 (of_decide_eq_true rfl) ?_
  have ho := Option.some.inj hfn
  subst ho
  exact zrl hx hb hr hK hP hD hS hQ rfl hlocks dX6_highOf_35
theorem zw_X6_endProduct_57 : Cond.initialized RX11 ∈ wsX6_endProduct := List.mem_of_getElem? (i := 27) (by decide +kernel)
theorem zw_X6_endProduct_58 : Cond.static yX11_apply ∈ wsX6_endProduct := List.mem_of_getElem? (i := 26) (by decide +kernel)
theorem zw_X6_endProduct_61 : Cond.methodLink RX6 57 Lib.MathLoose.min_long.x ∈ wsX6_endProduct := List.mem_of_getElem? (i := 5) (by decide +kernel)
theorem zw_X6_endProduct_62 : Cond.static Lib.MathLoose.min_long.x ∈ wsX6_endProduct := List.mem_of_getElem? (i := 6) (by decide +kernel)
theorem zw_X6_endProduct_63 : Cond.initialized "java/lang/Math" ∈ wsX6_endProduct := List.mem_of_getElem? (i := 3) (by decide +kernel)
theorem zw_X6_endProduct_64 : Cond.code Lib.MathLoose.min_long.x Lib.MathLoose.min_long.code 4 (some .long) ∈ wsX6_endProduct := List.mem_of_getElem? (i := 7) (by decide +kernel)
theorem zw_X6_endProduct_65 : Cond.methodLink RX6 63 Lib.MathLoose.max_long.x ∈ wsX6_endProduct := List.mem_of_getElem? (i := 1) (by decide +kernel)
theorem zw_X6_endProduct_66 : Cond.static Lib.MathLoose.max_long.x ∈ wsX6_endProduct := List.mem_of_getElem? (i := 2) (by decide +kernel)
theorem zw_X6_endProduct_67 : Cond.code Lib.MathLoose.max_long.x Lib.MathLoose.max_long.code 4 (some .long) ∈ wsX6_endProduct := List.mem_of_getElem? (i := 4) (by decide +kernel)
set_option maxHeartbeats 4000000 in
set_option maxRecDepth 100000 in
theorem zf_X6_endProduct (l : Launch) (dC : Nat → ClassId) (dI : Nat → Nat → Nat) (h0 : Nat) (h1 : Nat) (p2 : Int32) (j3 : Int64) (p4 : Int32) (r0_0 : Nat) (r0_1 : Nat) (r0_2 : Nat) (v1_0 : Int32) (v1_1 : Int32) (r1_2 : Nat) (r1_3 : Nat) (r1_4 : Nat) (r1_5 : Nat) (r1_6 : Nat) (r1_7 : Nat) (r1_8 : Nat) (r1_9 : Nat) (k2 : Nat) (f2 : Nat → Int32) (k3 : Nat) (f3 : Nat → Int32) (k4 : Nat) (f4 : Nat → Int64) (k5 : Nat) (f5 : Nat → Int64) (o : Int64) (hfn : fn_X6_endProduct p2 j3 p4 v1_0 f2 f3 f4 f5 = some o) (sz : Nat) : zNl [(RX6, 83, yX11_apply, RX11)] l yX6_endProduct wsX6_endProduct ({ frames := 3, cells := 0, slots := 0, locals := 78 }) (dC, dI) vwCl [.ref h0, .ref h1, .int p2, .long j3, .int p4] [zV6 h0 r0_0 r0_1 r0_2, zV4 h1 v1_0 v1_1 r1_2 r1_3 r1_4 r1_5 r1_6 r1_7 r1_8 r1_9, zVi r1_8 k2 28 f2, zVi r1_9 k3 28 f3, zVl r0_0 k4 14 f4, zVl r0_1 k5 14 f5] [(k2, .int), (k3, .int), (k4, .long), (k5, .long)] (fun r _ => r = o) [zV6 h0 r0_0 r0_1 r0_2, zV4 h1 v1_0 v1_1 r1_2 r1_3 r1_4 r1_5 r1_6 r1_7 r1_8 r1_9, zVi r1_8 k2 28 f2, zVi r1_9 k3 28 f3, zVl r0_0 k4 14 f4, zVl r0_1 k5 14 f5] [(k2, .int), (k3, .int), (k4, .long), (k5, .long)] sz := by
  refine zgoNl (cc := cX6_endProduct) (maxL := 10) (ret := (some .long)) (C0 := RX6) (lv0 := [(0, .ref h0), (1, .ref h1), (2, .int p2), (3, .long j3), (5, .int p4)]) zpl_X6 rfl rfl rfl (Nat.le_of_ble_eq_true rfl) ?_
  intro p e s m below meth c A ls Q hN hx hb hr hts hown hlocks hml hP hK hD hA hS hl hQ
  have hn0 : va_Nw (.methodLinkNest RX6 83 yX11_apply RX11) s := hN.1
  unfold fn_X6_endProduct at hfn
  refine lv_iconst (v := 3) hx hb dX6_endProduct_0 zci_3 ?_
  refine lv_lload_n hx hb dX6_endProduct_1 rfl (lv_at hl 3 rfl) ?_
  refine lv_aload_n hx hb dX6_endProduct_2 rfl (lv_at hl 0 rfl) ?_
  refine lv_aload_n hx hb dX6_endProduct_3 rfl (lv_at hl 1 rfl) ?_
  refine lv_iload_n hx hb dX6_endProduct_4 rfl (lv_at hl 2 rfl) ?_
  refine lv_iconst (v := 1) hx hb dX6_endProduct_5 zci_1 ?_
  obtain ⟨o_1, hqo_1, hfn⟩ := zb_s hfn
  refine zcVl (ci := 6) (rest := [.long j3, .int 3]) (pc' := 9) (ws' := [zV6 h0 r0_0 r0_1 r0_2, zV4 h1 v1_0 v1_1 r1_2 r1_3 r1_4 r1_5 r1_6 r1_7 r1_8 r1_9, zVi r1_8 k2 28 f2, zVi r1_9 k3 28 f3, zVl r0_0 k4 14 f4, zVl r0_1 k5 14 f5]) hP hK hD hS hA ⟨hx, hb, hml, hown, hts⟩ (zf_X6_lowOf l dC dI h0 h1 p2 1 r0_0 r0_1 r0_2 v1_0 v1_1 r1_2 r1_3 r1_4 r1_5 r1_6 r1_7 r1_8 r1_9 k2 f2 k3 f3 k4 f4 o_1 hqo_1 s.heap.size) (cwV 3 hts gX6_endProduct_X6_lowOf rfl rfl rfl zhd_X6_lowOf ⟨Nat.le_of_ble_eq_true rfl, Nat.le_of_ble_eq_true rfl⟩) [0, 1, 2, 3, 4] rfl (of_decide_eq_true rfl) [0, 1, 2] rfl rfl rfl rfl hl.1 rfl (Nat.le_of_ble_eq_true rfl) dX6_endProduct_6 ⟨Nat.le_of_ble_eq_true rfl, Nat.le_of_ble_eq_true rfl⟩ [some 0, some 1, some 2, some 3, some 4] (of_decide_eq_true rfl) (of_decide_eq_true rfl) rfl rfl rfl (fun H locs hP hD hS => ?_)
  refine lv_lconst (v := 1) hx hb dX6_endProduct_9 (by decide +kernel) ?_
  obtain ⟨o_5, hqo_5, hfn⟩ := zb_s hfn
  have hC := zC hP [] (wc := []) rfl
  have hPc := hP.sub [] (zfm hC)
  have hDc := hD.sub [] (of_decide_eq_true rfl) hC
  have hKc := hK.sub (tys' := []) [] rfl
  have hFc := va_free hD hS hA [] hC
  refine va_calll (va_runSN (As := [.int 3, .long j3, .long o_1, .long 1]) (rest := []) ⟨hx, hb, hml, hown, hts⟩ (zf_X11_apply l dC dI 3 j3 o_1 (1 : Int64) o_5 hqo_5 H.size) ⟨va_cnB (host := RX11) 4 hts gX6_endProduct_X11_apply_n83 rfl rfl rfl hn0 (hts (.initialized RX11) zw_X6_endProduct_57) (by decide +kernel) ⟨Nat.le_of_ble_eq_true rfl, Nat.le_of_ble_eq_true rfl⟩, (hts (.static yX11_apply) zw_X6_endProduct_58), trivial⟩ ⟨fun a U g mk q => by obtain ⟨q0, q1, qP, qK, qD⟩ := q; exact ⟨q0, q1, qP, va_K.moved (u := U) (U := U.calling g mk a) (Vm.Alike.refl U.vm) qK, qD⟩, fun U hU hW => ⟨rfl, by rw [hU], by rw [hU]; exact hPc, va_K.moved hW.alike hKc, hDc.weaken (fun _ _ _ _ => trivial)⟩⟩ rfl rfl hl.1 rfl (lv_room (Nat.le_of_ble_eq_true rfl)) dX6_endProduct_10 ⟨Nat.le_of_ble_eq_true rfl, Nat.le_of_ble_eq_true rfl⟩) hS (fun q _ h => hFc q h) hFc (fun r_6 u_7 t H1 locs ht hvm hw_8 hB hz1 hk1 hS => ?_)
  obtain ⟨hP1, hK1, hD1⟩ := hB
  rw [ht] at hP1
  have hK1 := va_K.moved hvm.symm hK1
  obtain ⟨hP, hD⟩ := zjn (ws' := [zV6 h0 r0_0 r0_1 r0_2, zV4 h1 v1_0 v1_1 r1_2 r1_3 r1_4 r1_5 r1_6 r1_7 r1_8 r1_9, zVi r1_8 k2 28 f2, zVi r1_9 k3 28 f3, zVl r0_0 k4 14 f4, zVl r0_1 k5 14 f5]) hP hD [] hC hk1 hFc hP1 hD1 [] (of_decide_eq_true rfl) (of_decide_eq_true rfl) rfl rfl
  generalize H1 = H at hP hS ⊢
  refine W.eq (g2 := F0 m 13 ls [.long o_5]) (by rw [hw_8]) ?_
  refine lv_lstore (lv' := [(6, .long o_5), (0, .ref h0), (1, .ref h1), (2, .int p2), (3, .long j3), (5, .int p4)]) hx hb dX6_endProduct_13 hl (of_decide_eq_true rfl) rfl (fun ls hl => ?_)
  refine lv_iconst (v := 3) hx hb dX6_endProduct_15 zci_3 ?_
  refine lv_lload_n hx hb dX6_endProduct_16 rfl (lv_at hl 4 rfl) ?_
  refine lv_aload_n hx hb dX6_endProduct_17 rfl (lv_at hl 1 rfl) ?_
  refine lv_aload_n hx hb dX6_endProduct_18 rfl (lv_at hl 2 rfl) ?_
  refine lv_iload_n hx hb dX6_endProduct_19 rfl (lv_at hl 3 rfl) ?_
  refine lv_iconst (v := 1) hx hb dX6_endProduct_20 zci_1 ?_
  obtain ⟨o_9, hqo_9, hfn⟩ := zb_s hfn
  refine zcVl (ci := 6) (rest := [.long j3, .int 3]) (pc' := 24) (ws' := [zV6 h0 r0_0 r0_1 r0_2, zV4 h1 v1_0 v1_1 r1_2 r1_3 r1_4 r1_5 r1_6 r1_7 r1_8 r1_9, zVi r1_8 k2 28 f2, zVi r1_9 k3 28 f3, zVl r0_0 k4 14 f4, zVl r0_1 k5 14 f5]) hP hK hD hS hA ⟨hx, hb, hml, hown, hts⟩ (zf_X6_highOf l dC dI h0 h1 p2 1 r0_0 r0_1 r0_2 v1_0 v1_1 r1_2 r1_3 r1_4 r1_5 r1_6 r1_7 r1_8 r1_9 k2 f2 k3 f3 k5 f5 o_9 hqo_9 H.size) (cwV 3 hts gX6_endProduct_X6_highOf rfl rfl rfl zhd_X6_highOf ⟨Nat.le_of_ble_eq_true rfl, Nat.le_of_ble_eq_true rfl⟩) [0, 1, 2, 3, 5] rfl (of_decide_eq_true rfl) [0, 1, 3] rfl rfl rfl rfl hl.1 rfl (Nat.le_of_ble_eq_true rfl) dX6_endProduct_21 ⟨Nat.le_of_ble_eq_true rfl, Nat.le_of_ble_eq_true rfl⟩ [some 0, some 1, some 2, some 3, none, some 4] (of_decide_eq_true rfl) (of_decide_eq_true rfl) rfl rfl rfl (fun H locs hP hD hS => ?_)
  refine lv_lconst (v := 1) hx hb dX6_endProduct_24 (by decide +kernel) ?_
  obtain ⟨o_13, hqo_13, hfn⟩ := zb_s hfn
  have hC := zC hP [] (wc := []) rfl
  have hPc := hP.sub [] (zfm hC)
  have hDc := hD.sub [] (of_decide_eq_true rfl) hC
  have hKc := hK.sub (tys' := []) [] rfl
  have hFc := va_free hD hS hA [] hC
  refine va_calll (va_runSN (As := [.int 3, .long j3, .long o_9, .long 1]) (rest := []) ⟨hx, hb, hml, hown, hts⟩ (zf_X11_apply l dC dI 3 j3 o_9 (1 : Int64) o_13 hqo_13 H.size) ⟨va_cnB (host := RX11) 4 hts gX6_endProduct_X11_apply_n83 rfl rfl rfl hn0 (hts (.initialized RX11) zw_X6_endProduct_57) (by decide +kernel) ⟨Nat.le_of_ble_eq_true rfl, Nat.le_of_ble_eq_true rfl⟩, (hts (.static yX11_apply) zw_X6_endProduct_58), trivial⟩ ⟨fun a U g mk q => by obtain ⟨q0, q1, qP, qK, qD⟩ := q; exact ⟨q0, q1, qP, va_K.moved (u := U) (U := U.calling g mk a) (Vm.Alike.refl U.vm) qK, qD⟩, fun U hU hW => ⟨rfl, by rw [hU], by rw [hU]; exact hPc, va_K.moved hW.alike hKc, hDc.weaken (fun _ _ _ _ => trivial)⟩⟩ rfl rfl hl.1 rfl (lv_room (Nat.le_of_ble_eq_true rfl)) dX6_endProduct_25 ⟨Nat.le_of_ble_eq_true rfl, Nat.le_of_ble_eq_true rfl⟩) hS (fun q _ h => hFc q h) hFc (fun r_14 u_15 t H1 locs ht hvm hw_16 hB hz1 hk1 hS => ?_)
  obtain ⟨hP1, hK1, hD1⟩ := hB
  rw [ht] at hP1
  have hK1 := va_K.moved hvm.symm hK1
  obtain ⟨hP, hD⟩ := zjn (ws' := [zV6 h0 r0_0 r0_1 r0_2, zV4 h1 v1_0 v1_1 r1_2 r1_3 r1_4 r1_5 r1_6 r1_7 r1_8 r1_9, zVi r1_8 k2 28 f2, zVi r1_9 k3 28 f3, zVl r0_0 k4 14 f4, zVl r0_1 k5 14 f5]) hP hD [] hC hk1 hFc hP1 hD1 [] (of_decide_eq_true rfl) (of_decide_eq_true rfl) rfl rfl
  generalize H1 = H at hP hS ⊢
  refine W.eq (g2 := F0 m 28 ls [.long o_13]) (by rw [hw_16]) ?_
  refine lv_lstore (lv' := [(8, .long o_13), (6, .long o_5), (0, .ref h0), (1, .ref h1), (2, .int p2), (3, .long j3), (5, .int p4)]) hx hb dX6_endProduct_28 hl (of_decide_eq_true rfl) rfl (fun ls hl => ?_)
  refine lv_iload hx hb dX6_endProduct_30 (lv_at hl 6 rfl) ?_
  refine lv_if_eq (tgt := 45) hx hb dX6_endProduct_32 (of_decide_eq_true rfl) (fun c_17 => ?_) (fun c_17 => ?_)
  · have hfn := (if_pos c_17).symm.trans hfn
    refine lv_lload hx hb dX6_endProduct_45 (lv_at hl 1 rfl) ?_
    refine lv_lload hx hb dX6_endProduct_47 (lv_at hl 0 rfl) ?_
    refine va_mmin_long hx hb (by rw [hml]; exact hl.1.symm) hown (hts (.methodLink RX6 57 Lib.MathLoose.min_long.x) zw_X6_endProduct_61) (hts (.static Lib.MathLoose.min_long.x) zw_X6_endProduct_62) (hts (.initialized "java/lang/Math") zw_X6_endProduct_63) (hts (.code Lib.MathLoose.min_long.x Lib.MathLoose.min_long.code 4 (some .long)) zw_X6_endProduct_64) (Nat.le_of_ble_eq_true rfl) (Nat.le_of_ble_eq_true rfl) (Nat.le_of_ble_eq_true rfl) (Nat.le_of_ble_eq_true rfl) dX6_endProduct_49 ?_
    have ho := Option.some.inj hfn
    subst ho
    exact zrl hx hb hr hK hP hD hS hQ rfl hlocks dX6_endProduct_52
  have hfn := (if_neg c_17).symm.trans hfn
  refine lv_lload hx hb dX6_endProduct_35 (lv_at hl 1 rfl) ?_
  refine lv_lload hx hb dX6_endProduct_37 (lv_at hl 0 rfl) ?_
  refine va_mmax_long hx hb (by rw [hml]; exact hl.1.symm) hown (hts (.methodLink RX6 63 Lib.MathLoose.max_long.x) zw_X6_endProduct_65) (hts (.static Lib.MathLoose.max_long.x) zw_X6_endProduct_66) (hts (.initialized "java/lang/Math") zw_X6_endProduct_63) (hts (.code Lib.MathLoose.max_long.x Lib.MathLoose.max_long.code 4 (some .long)) zw_X6_endProduct_67) (Nat.le_of_ble_eq_true rfl) (Nat.le_of_ble_eq_true rfl) (Nat.le_of_ble_eq_true rfl) (Nat.le_of_ble_eq_true rfl) dX6_endProduct_39 ?_
  refine lv_goto (tgt := 52) hx hb dX6_endProduct_42 (of_decide_eq_true rfl) ?_
  have ho := Option.some.inj hfn
  subst ho
  exact zrl hx hb hr hK hP hD hS hQ rfl hlocks dX6_endProduct_52
theorem zn_X6_lowest_X4 : ∀ w ∈ wsX40, w ∈ wsX6_lowest := fun _ h => List.mem_cons_of_mem _ (List.mem_append_left _ (List.mem_append_right _ h))
theorem zw_X6_lowest_39 : Cond.fieldLink RX6 72 "ShortEnough$Numbers" "op" "[I" ∈ wsX6_lowest := List.mem_of_getElem? (i := 1) (by decide +kernel)
theorem zw_X6_lowest_68 : Cond.methodLink RX6 57 Lib.MathLoose.min_long.x ∈ wsX6_lowest := List.mem_of_getElem? (i := 2) (by decide +kernel)
theorem zw_X6_lowest_69 : Cond.static Lib.MathLoose.min_long.x ∈ wsX6_lowest := List.mem_of_getElem? (i := 3) (by decide +kernel)
theorem zw_X6_lowest_70 : Cond.initialized "java/lang/Math" ∈ wsX6_lowest := List.mem_of_getElem? (i := 4) (by decide +kernel)
theorem zw_X6_lowest_71 : Cond.code Lib.MathLoose.min_long.x Lib.MathLoose.min_long.code 4 (some .long) ∈ wsX6_lowest := List.mem_of_getElem? (i := 5) (by decide +kernel)
theorem zw_X6_lowest_72 : Cond.initialized RX11 ∈ wsX6_lowest := List.mem_of_getElem? (i := 30) (by decide +kernel)
theorem zw_X6_lowest_73 : Cond.static yX11_apply ∈ wsX6_lowest := List.mem_of_getElem? (i := 29) (by decide +kernel)
set_option maxHeartbeats 4000000 in
set_option maxRecDepth 100000 in
theorem zf_X6_lowest (l : Launch) (dC : Nat → ClassId) (dI : Nat → Nat → Nat) (h0 : Nat) (h1 : Nat) (p2 : Int32) (r0_0 : Nat) (r0_1 : Nat) (r0_2 : Nat) (v1_0 : Int32) (v1_1 : Int32) (r1_2 : Nat) (r1_3 : Nat) (r1_4 : Nat) (r1_5 : Nat) (r1_6 : Nat) (r1_7 : Nat) (r1_8 : Nat) (r1_9 : Nat) (k2 : Nat) (f2 : Nat → Int32) (k3 : Nat) (f3 : Nat → Int32) (k4 : Nat) (f4 : Nat → Int32) (k5 : Nat) (f5 : Nat → Int64) (k6 : Nat) (f6 : Nat → Int64) (o : Int64) (hfn : fn_X6_lowest p2 v1_0 f2 f3 f4 f5 f6 = some o) (sz : Nat) : zNl [(RX6, 83, yX11_apply, RX11)] l yX6_lowest wsX6_lowest ({ frames := 4, cells := 0, slots := 0, locals := 107 }) (dC, dI) vwCl [.ref h0, .ref h1, .int p2] [zV6 h0 r0_0 r0_1 r0_2, zV4 h1 v1_0 v1_1 r1_2 r1_3 r1_4 r1_5 r1_6 r1_7 r1_8 r1_9, zVi r1_3 k2 14 f2, zVi r1_8 k3 28 f3, zVi r1_9 k4 28 f4, zVl r0_0 k5 14 f5, zVl r0_1 k6 14 f6] [(k2, .int), (k3, .int), (k4, .int), (k5, .long), (k6, .long)] (fun r _ => r = o) [zV6 h0 r0_0 r0_1 r0_2, zV4 h1 v1_0 v1_1 r1_2 r1_3 r1_4 r1_5 r1_6 r1_7 r1_8 r1_9, zVi r1_3 k2 14 f2, zVi r1_8 k3 28 f3, zVi r1_9 k4 28 f4, zVl r0_0 k5 14 f5, zVl r0_1 k6 14 f6] [(k2, .int), (k3, .int), (k4, .int), (k5, .long), (k6, .long)] sz := by
  refine zgoNl (cc := cX6_lowest) (maxL := 8) (ret := (some .long)) (C0 := RX6) (lv0 := [(0, .ref h0), (1, .ref h1), (2, .int p2)]) zpl_X6 rfl rfl rfl (Nat.le_of_ble_eq_true rfl) ?_
  intro p e s m below meth c A ls Q hN hx hb hr hts hown hlocks hml hP hK hD hA hS hl hQ
  have hn0 : va_Nw (.methodLinkNest RX6 83 yX11_apply RX11) s := hN.1
  unfold fn_X6_lowest at hfn
  refine lv_aload_n hx hb dX6_lowest_0 rfl (lv_at hl 1 rfl) ?_
  refine va_get (D := (dC, dI)) (ci := 4) (v := .ref r1_3) (C := RX4) (T := TX4) (N := 10) hx hb hts zn_X6_lowest_X4 hown hK hP 1 rfl rfl 3 (of_decide_eq_true rfl) (hts (.fieldLink RX6 72 "ShortEnough$Numbers" "op" "[I") zw_X6_lowest_39) (fun _ h9 => h9) rfl dX6_lowest_1 ?_
  refine lv_iload_n hx hb dX6_lowest_4 rfl (lv_at hl 2 rfl) ?_
  obtain ⟨h_1, hfn⟩ := zg_s hfn
  refine va_iald hx hb hK hP 2 0 rfl rfl h_1 dX6_lowest_5 ?_
  refine lv_istore_n (lv' := [(3, .int (f2 p2.toNatClampNeg)), (0, .ref h0), (1, .ref h1), (2, .int p2)]) hx hb dX6_lowest_6 rfl hl (of_decide_eq_true rfl) rfl (fun ls hl => ?_)
  refine lv_aload_n hx hb dX6_lowest_7 rfl (lv_at hl 1 rfl) ?_
  refine lv_aload_n hx hb dX6_lowest_8 rfl (lv_at hl 2 rfl) ?_
  refine lv_iload_n hx hb dX6_lowest_9 rfl (lv_at hl 3 rfl) ?_
  refine lv_iconst (v := 0) hx hb dX6_lowest_10 zci_0 ?_
  obtain ⟨o_2, hqo_2, hfn⟩ := zb_s hfn
  refine zcVl (ci := 6) (rest := []) (pc' := 14) (ws' := [zV6 h0 r0_0 r0_1 r0_2, zV4 h1 v1_0 v1_1 r1_2 r1_3 r1_4 r1_5 r1_6 r1_7 r1_8 r1_9, zVi r1_3 k2 14 f2, zVi r1_8 k3 28 f3, zVi r1_9 k4 28 f4, zVl r0_0 k5 14 f5, zVl r0_1 k6 14 f6]) hP hK hD hS hA ⟨hx, hb, hml, hown, hts⟩ (zf_X6_lowOf l dC dI h0 h1 p2 0 r0_0 r0_1 r0_2 v1_0 v1_1 r1_2 r1_3 r1_4 r1_5 r1_6 r1_7 r1_8 r1_9 k3 f3 k4 f4 k5 f5 o_2 hqo_2 s.heap.size) (cwV 3 hts gX6_lowest_X6_lowOf rfl rfl rfl zhd_X6_lowOf ⟨Nat.le_of_ble_eq_true rfl, Nat.le_of_ble_eq_true rfl⟩) [0, 1, 3, 4, 5] rfl (of_decide_eq_true rfl) [1, 2, 3] rfl rfl rfl rfl hl.1 rfl (Nat.le_of_ble_eq_true rfl) dX6_lowest_11 ⟨Nat.le_of_ble_eq_true rfl, Nat.le_of_ble_eq_true rfl⟩ [some 0, some 1, none, some 2, some 3, some 4] (of_decide_eq_true rfl) (of_decide_eq_true rfl) rfl rfl rfl (fun H locs hP hD hS => ?_)
  refine lv_lstore (lv' := [(4, .long o_2), (3, .int (f2 p2.toNatClampNeg)), (0, .ref h0), (1, .ref h1), (2, .int p2)]) hx hb dX6_lowest_14 hl (of_decide_eq_true rfl) rfl (fun ls hl => ?_)
  refine lv_iload_n hx hb dX6_lowest_16 rfl (lv_at hl 1 rfl) ?_
  refine lv_if_ne (tgt := 23) hx hb dX6_lowest_17 (of_decide_eq_true rfl) (fun c_6 => ?_) (fun c_6 => ?_)
  · have hfn := (if_neg c_6).symm.trans hfn
    refine lv_iload_n hx hb dX6_lowest_23 rfl (lv_at hl 1 rfl) ?_
    refine lv_iconst (v := 3) hx hb dX6_lowest_24 zci_3 ?_
    refine lv_icmp_eq (tgt := 62) hx hb dX6_lowest_25 (of_decide_eq_true rfl) (fun c_7 => ?_) (fun c_7 => ?_)
    · have hfn := (if_pos c_7).symm.trans hfn
      refine lv_aload_n hx hb dX6_lowest_62 rfl (lv_at hl 2 rfl) ?_
      refine lv_aload_n hx hb dX6_lowest_63 rfl (lv_at hl 3 rfl) ?_
      refine lv_iload_n hx hb dX6_lowest_64 rfl (lv_at hl 4 rfl) ?_
      refine lv_lload hx hb dX6_lowest_65 (lv_at hl 0 rfl) ?_
      refine lv_iconst (v := 0) hx hb dX6_lowest_67 zci_0 ?_
      obtain ⟨o_8, hqo_8, hfn⟩ := zb_s hfn
      refine zcNVl (ci := 6) (rest := []) (pc' := 71) (ws' := [zV6 h0 r0_0 r0_1 r0_2, zV4 h1 v1_0 v1_1 r1_2 r1_3 r1_4 r1_5 r1_6 r1_7 r1_8 r1_9, zVi r1_3 k2 14 f2, zVi r1_8 k3 28 f3, zVi r1_9 k4 28 f4, zVl r0_0 k5 14 f5, zVl r0_1 k6 14 f6]) hP hK hD hS hA ⟨hx, hb, hml, hown, hts⟩ (zf_X6_endProduct l dC dI h0 h1 p2 o_2 0 r0_0 r0_1 r0_2 v1_0 v1_1 r1_2 r1_3 r1_4 r1_5 r1_6 r1_7 r1_8 r1_9 k3 f3 k4 f4 k5 f5 k6 f6 o_8 hqo_8 H.size) ⟨hn0, trivial⟩ (cwV 4 hts gX6_lowest_X6_endProduct rfl rfl rfl zhd_X6_endProduct ⟨Nat.le_of_ble_eq_true rfl, Nat.le_of_ble_eq_true rfl⟩) [0, 1, 3, 4, 5, 6] rfl (of_decide_eq_true rfl) [1, 2, 3, 4] rfl rfl rfl rfl hl.1 rfl (Nat.le_of_ble_eq_true rfl) dX6_lowest_68 ⟨Nat.le_of_ble_eq_true rfl, Nat.le_of_ble_eq_true rfl⟩ [some 0, some 1, none, some 2, some 3, some 4, some 5] (of_decide_eq_true rfl) (of_decide_eq_true rfl) rfl rfl rfl (fun H locs hP hD hS => ?_)
      refine lv_aload_n hx hb dX6_lowest_71 rfl (lv_at hl 2 rfl) ?_
      refine lv_aload_n hx hb dX6_lowest_72 rfl (lv_at hl 3 rfl) ?_
      refine lv_iload_n hx hb dX6_lowest_73 rfl (lv_at hl 4 rfl) ?_
      refine lv_aload_n hx hb dX6_lowest_74 rfl (lv_at hl 2 rfl) ?_
      refine lv_aload_n hx hb dX6_lowest_75 rfl (lv_at hl 3 rfl) ?_
      refine lv_iload_n hx hb dX6_lowest_76 rfl (lv_at hl 4 rfl) ?_
      refine lv_iconst (v := 0) hx hb dX6_lowest_77 zci_0 ?_
      obtain ⟨o_12, hqo_12, hfn⟩ := zb_s hfn
      refine zcVl (ci := 6) (rest := [.int p2, .ref h1, .ref h0, .long o_8]) (pc' := 81) (ws' := [zV6 h0 r0_0 r0_1 r0_2, zV4 h1 v1_0 v1_1 r1_2 r1_3 r1_4 r1_5 r1_6 r1_7 r1_8 r1_9, zVi r1_3 k2 14 f2, zVi r1_8 k3 28 f3, zVi r1_9 k4 28 f4, zVl r0_0 k5 14 f5, zVl r0_1 k6 14 f6]) hP hK hD hS hA ⟨hx, hb, hml, hown, hts⟩ (zf_X6_highOf l dC dI h0 h1 p2 0 r0_0 r0_1 r0_2 v1_0 v1_1 r1_2 r1_3 r1_4 r1_5 r1_6 r1_7 r1_8 r1_9 k3 f3 k4 f4 k6 f6 o_12 hqo_12 H.size) (cwV 3 hts gX6_lowest_X6_highOf rfl rfl rfl zhd_X6_highOf ⟨Nat.le_of_ble_eq_true rfl, Nat.le_of_ble_eq_true rfl⟩) [0, 1, 3, 4, 6] rfl (of_decide_eq_true rfl) [1, 2, 4] rfl rfl rfl rfl hl.1 rfl (Nat.le_of_ble_eq_true rfl) dX6_lowest_78 ⟨Nat.le_of_ble_eq_true rfl, Nat.le_of_ble_eq_true rfl⟩ [some 0, some 1, none, some 2, some 3, none, some 4] (of_decide_eq_true rfl) (of_decide_eq_true rfl) rfl rfl rfl (fun H locs hP hD hS => ?_)
      refine lv_iconst (v := 0) hx hb dX6_lowest_81 zci_0 ?_
      obtain ⟨o_16, hqo_16, hfn⟩ := zb_s hfn
      refine zcNVl (ci := 6) (rest := [.long o_8]) (pc' := 85) (ws' := [zV6 h0 r0_0 r0_1 r0_2, zV4 h1 v1_0 v1_1 r1_2 r1_3 r1_4 r1_5 r1_6 r1_7 r1_8 r1_9, zVi r1_3 k2 14 f2, zVi r1_8 k3 28 f3, zVi r1_9 k4 28 f4, zVl r0_0 k5 14 f5, zVl r0_1 k6 14 f6]) hP hK hD hS hA ⟨hx, hb, hml, hown, hts⟩ (zf_X6_endProduct l dC dI h0 h1 p2 o_12 0 r0_0 r0_1 r0_2 v1_0 v1_1 r1_2 r1_3 r1_4 r1_5 r1_6 r1_7 r1_8 r1_9 k3 f3 k4 f4 k5 f5 k6 f6 o_16 hqo_16 H.size) ⟨hn0, trivial⟩ (cwV 4 hts gX6_lowest_X6_endProduct rfl rfl rfl zhd_X6_endProduct ⟨Nat.le_of_ble_eq_true rfl, Nat.le_of_ble_eq_true rfl⟩) [0, 1, 3, 4, 5, 6] rfl (of_decide_eq_true rfl) [1, 2, 3, 4] rfl rfl rfl rfl hl.1 rfl (Nat.le_of_ble_eq_true rfl) dX6_lowest_82 ⟨Nat.le_of_ble_eq_true rfl, Nat.le_of_ble_eq_true rfl⟩ [some 0, some 1, none, some 2, some 3, some 4, some 5] (of_decide_eq_true rfl) (of_decide_eq_true rfl) rfl rfl rfl (fun H locs hP hD hS => ?_)
      refine va_mmin_long hx hb (by rw [hml]; exact hl.1.symm) hown (hts (.methodLink RX6 57 Lib.MathLoose.min_long.x) zw_X6_lowest_68) (hts (.static Lib.MathLoose.min_long.x) zw_X6_lowest_69) (hts (.initialized "java/lang/Math") zw_X6_lowest_70) (hts (.code Lib.MathLoose.min_long.x Lib.MathLoose.min_long.code 4 (some .long)) zw_X6_lowest_71) (Nat.le_of_ble_eq_true rfl) (Nat.le_of_ble_eq_true rfl) (Nat.le_of_ble_eq_true rfl) (Nat.le_of_ble_eq_true rfl) dX6_lowest_85 ?_
      have ho := Option.some.inj hfn
      subst ho
      exact zrl hx hb hr hK hP hD hS hQ rfl hlocks dX6_lowest_88
    have hfn := (if_neg c_7).symm.trans hfn
    refine lv_iload_n hx hb dX6_lowest_28 rfl (lv_at hl 1 rfl) ?_
    refine lv_iconst (v := 2) hx hb dX6_lowest_29 zci_2 ?_
    refine lv_icmp_ne (tgt := 43) hx hb dX6_lowest_30 (of_decide_eq_true rfl) (fun c_20 => ?_) (fun c_20 => ?_)
    · have hfn := (if_neg c_20).symm.trans hfn
      refine lv_aload_n hx hb dX6_lowest_43 rfl (lv_at hl 2 rfl) ?_
      refine lv_aload_n hx hb dX6_lowest_44 rfl (lv_at hl 3 rfl) ?_
      refine lv_iload_n hx hb dX6_lowest_45 rfl (lv_at hl 4 rfl) ?_
      refine lv_iconst (v := 1) hx hb dX6_lowest_46 zci_1 ?_
      obtain ⟨o_21, hqo_21, hfn⟩ := zb_s hfn
      refine zcVl (ci := 6) (rest := []) (pc' := 50) (ws' := [zV6 h0 r0_0 r0_1 r0_2, zV4 h1 v1_0 v1_1 r1_2 r1_3 r1_4 r1_5 r1_6 r1_7 r1_8 r1_9, zVi r1_3 k2 14 f2, zVi r1_8 k3 28 f3, zVi r1_9 k4 28 f4, zVl r0_0 k5 14 f5, zVl r0_1 k6 14 f6]) hP hK hD hS hA ⟨hx, hb, hml, hown, hts⟩ (zf_X6_lowOf l dC dI h0 h1 p2 1 r0_0 r0_1 r0_2 v1_0 v1_1 r1_2 r1_3 r1_4 r1_5 r1_6 r1_7 r1_8 r1_9 k3 f3 k4 f4 k5 f5 o_21 hqo_21 H.size) (cwV 3 hts gX6_lowest_X6_lowOf rfl rfl rfl zhd_X6_lowOf ⟨Nat.le_of_ble_eq_true rfl, Nat.le_of_ble_eq_true rfl⟩) [0, 1, 3, 4, 5] rfl (of_decide_eq_true rfl) [1, 2, 3] rfl rfl rfl rfl hl.1 rfl (Nat.le_of_ble_eq_true rfl) dX6_lowest_47 ⟨Nat.le_of_ble_eq_true rfl, Nat.le_of_ble_eq_true rfl⟩ [some 0, some 1, none, some 2, some 3, some 4] (of_decide_eq_true rfl) (of_decide_eq_true rfl) rfl rfl rfl (fun H locs hP hD hS => ?_)
      refine lv_lstore (lv' := [(6, .long o_21), (4, .long o_2), (3, .int (f2 p2.toNatClampNeg)), (0, .ref h0), (1, .ref h1), (2, .int p2)]) hx hb dX6_lowest_50 hl (of_decide_eq_true rfl) rfl (fun ls hl => ?_)
      refine lv_iload_n hx hb dX6_lowest_52 rfl (lv_at hl 2 rfl) ?_
      refine lv_lload hx hb dX6_lowest_53 (lv_at hl 1 rfl) ?_
      refine lv_lload hx hb dX6_lowest_55 (lv_at hl 0 rfl) ?_
      refine lv_lconst (v := 1) hx hb dX6_lowest_57 (by decide +kernel) ?_
      obtain ⟨o_25, hqo_25, hfn⟩ := zb_s hfn
      have hC := zC hP [] (wc := []) rfl
      have hPc := hP.sub [] (zfm hC)
      have hDc := hD.sub [] (of_decide_eq_true rfl) hC
      have hKc := hK.sub (tys' := []) [] rfl
      have hFc := va_free hD hS hA [] hC
      refine va_calll (va_runSN (As := [.int (f2 p2.toNatClampNeg), .long o_2, .long o_21, .long 1]) (rest := []) ⟨hx, hb, hml, hown, hts⟩ (zf_X11_apply l dC dI (f2 p2.toNatClampNeg) o_2 o_21 (1 : Int64) o_25 hqo_25 H.size) ⟨va_cnB (host := RX11) 4 hts gX6_lowest_X11_apply_n83 rfl rfl rfl hn0 (hts (.initialized RX11) zw_X6_lowest_72) (by decide +kernel) ⟨Nat.le_of_ble_eq_true rfl, Nat.le_of_ble_eq_true rfl⟩, (hts (.static yX11_apply) zw_X6_lowest_73), trivial⟩ ⟨fun a U g mk q => by obtain ⟨q0, q1, qP, qK, qD⟩ := q; exact ⟨q0, q1, qP, va_K.moved (u := U) (U := U.calling g mk a) (Vm.Alike.refl U.vm) qK, qD⟩, fun U hU hW => ⟨rfl, by rw [hU], by rw [hU]; exact hPc, va_K.moved hW.alike hKc, hDc.weaken (fun _ _ _ _ => trivial)⟩⟩ rfl rfl hl.1 rfl (lv_room (Nat.le_of_ble_eq_true rfl)) dX6_lowest_58 ⟨Nat.le_of_ble_eq_true rfl, Nat.le_of_ble_eq_true rfl⟩) hS (fun q _ h => hFc q h) hFc (fun r_26 u_27 t H1 locs ht hvm hw_28 hB hz1 hk1 hS => ?_)
      obtain ⟨hP1, hK1, hD1⟩ := hB
      rw [ht] at hP1
      have hK1 := va_K.moved hvm.symm hK1
      obtain ⟨hP, hD⟩ := zjn (ws' := [zV6 h0 r0_0 r0_1 r0_2, zV4 h1 v1_0 v1_1 r1_2 r1_3 r1_4 r1_5 r1_6 r1_7 r1_8 r1_9, zVi r1_3 k2 14 f2, zVi r1_8 k3 28 f3, zVi r1_9 k4 28 f4, zVl r0_0 k5 14 f5, zVl r0_1 k6 14 f6]) hP hD [] hC hk1 hFc hP1 hD1 [] (of_decide_eq_true rfl) (of_decide_eq_true rfl) rfl rfl
      generalize H1 = H at hP hS ⊢
      refine W.eq (g2 := F0 m 61 ls [.long o_25]) (by rw [hw_28]) ?_
      have ho := Option.some.inj hfn
      subst ho
      exact zrl hx hb hr hK hP hD hS hQ rfl hlocks dX6_lowest_61
    have hfn := (if_pos c_20).symm.trans hfn
    refine lv_aload_n hx hb dX6_lowest_33 rfl (lv_at hl 2 rfl) ?_
    refine lv_aload_n hx hb dX6_lowest_34 rfl (lv_at hl 3 rfl) ?_
    refine lv_iload_n hx hb dX6_lowest_35 rfl (lv_at hl 4 rfl) ?_
    refine lv_iconst (v := 1) hx hb dX6_lowest_36 zci_1 ?_
    obtain ⟨o_29, hqo_29, hfn⟩ := zb_s hfn
    refine zcVl (ci := 6) (rest := []) (pc' := 40) (ws' := [zV6 h0 r0_0 r0_1 r0_2, zV4 h1 v1_0 v1_1 r1_2 r1_3 r1_4 r1_5 r1_6 r1_7 r1_8 r1_9, zVi r1_3 k2 14 f2, zVi r1_8 k3 28 f3, zVi r1_9 k4 28 f4, zVl r0_0 k5 14 f5, zVl r0_1 k6 14 f6]) hP hK hD hS hA ⟨hx, hb, hml, hown, hts⟩ (zf_X6_highOf l dC dI h0 h1 p2 1 r0_0 r0_1 r0_2 v1_0 v1_1 r1_2 r1_3 r1_4 r1_5 r1_6 r1_7 r1_8 r1_9 k3 f3 k4 f4 k6 f6 o_29 hqo_29 H.size) (cwV 3 hts gX6_lowest_X6_highOf rfl rfl rfl zhd_X6_highOf ⟨Nat.le_of_ble_eq_true rfl, Nat.le_of_ble_eq_true rfl⟩) [0, 1, 3, 4, 6] rfl (of_decide_eq_true rfl) [1, 2, 4] rfl rfl rfl rfl hl.1 rfl (Nat.le_of_ble_eq_true rfl) dX6_lowest_37 ⟨Nat.le_of_ble_eq_true rfl, Nat.le_of_ble_eq_true rfl⟩ [some 0, some 1, none, some 2, some 3, none, some 4] (of_decide_eq_true rfl) (of_decide_eq_true rfl) rfl rfl rfl (fun H locs hP hD hS => ?_)
    refine lv_goto (tgt := 50) hx hb dX6_lowest_40 (of_decide_eq_true rfl) ?_
    refine lv_lstore (lv' := [(6, .long o_29), (4, .long o_2), (3, .int (f2 p2.toNatClampNeg)), (0, .ref h0), (1, .ref h1), (2, .int p2)]) hx hb dX6_lowest_50 hl (of_decide_eq_true rfl) rfl (fun ls hl => ?_)
    refine lv_iload_n hx hb dX6_lowest_52 rfl (lv_at hl 2 rfl) ?_
    refine lv_lload hx hb dX6_lowest_53 (lv_at hl 1 rfl) ?_
    refine lv_lload hx hb dX6_lowest_55 (lv_at hl 0 rfl) ?_
    refine lv_lconst (v := 1) hx hb dX6_lowest_57 (by decide +kernel) ?_
    obtain ⟨o_33, hqo_33, hfn⟩ := zb_s hfn
    have hC := zC hP [] (wc := []) rfl
    have hPc := hP.sub [] (zfm hC)
    have hDc := hD.sub [] (of_decide_eq_true rfl) hC
    have hKc := hK.sub (tys' := []) [] rfl
    have hFc := va_free hD hS hA [] hC
    refine va_calll (va_runSN (As := [.int (f2 p2.toNatClampNeg), .long o_2, .long o_29, .long 1]) (rest := []) ⟨hx, hb, hml, hown, hts⟩ (zf_X11_apply l dC dI (f2 p2.toNatClampNeg) o_2 o_29 (1 : Int64) o_33 hqo_33 H.size) ⟨va_cnB (host := RX11) 4 hts gX6_lowest_X11_apply_n83 rfl rfl rfl hn0 (hts (.initialized RX11) zw_X6_lowest_72) (by decide +kernel) ⟨Nat.le_of_ble_eq_true rfl, Nat.le_of_ble_eq_true rfl⟩, (hts (.static yX11_apply) zw_X6_lowest_73), trivial⟩ ⟨fun a U g mk q => by obtain ⟨q0, q1, qP, qK, qD⟩ := q; exact ⟨q0, q1, qP, va_K.moved (u := U) (U := U.calling g mk a) (Vm.Alike.refl U.vm) qK, qD⟩, fun U hU hW => ⟨rfl, by rw [hU], by rw [hU]; exact hPc, va_K.moved hW.alike hKc, hDc.weaken (fun _ _ _ _ => trivial)⟩⟩ rfl rfl hl.1 rfl (lv_room (Nat.le_of_ble_eq_true rfl)) dX6_lowest_58 ⟨Nat.le_of_ble_eq_true rfl, Nat.le_of_ble_eq_true rfl⟩) hS (fun q _ h => hFc q h) hFc (fun r_34 u_35 t H1 locs ht hvm hw_36 hB hz1 hk1 hS => ?_)
    obtain ⟨hP1, hK1, hD1⟩ := hB
    rw [ht] at hP1
    have hK1 := va_K.moved hvm.symm hK1
    obtain ⟨hP, hD⟩ := zjn (ws' := [zV6 h0 r0_0 r0_1 r0_2, zV4 h1 v1_0 v1_1 r1_2 r1_3 r1_4 r1_5 r1_6 r1_7 r1_8 r1_9, zVi r1_3 k2 14 f2, zVi r1_8 k3 28 f3, zVi r1_9 k4 28 f4, zVl r0_0 k5 14 f5, zVl r0_1 k6 14 f6]) hP hD [] hC hk1 hFc hP1 hD1 [] (of_decide_eq_true rfl) (of_decide_eq_true rfl) rfl rfl
    generalize H1 = H at hP hS ⊢
    refine W.eq (g2 := F0 m 61 ls [.long o_33]) (by rw [hw_36]) ?_
    have ho := Option.some.inj hfn
    subst ho
    exact zrl hx hb hr hK hP hD hS hQ rfl hlocks dX6_lowest_61
  have hfn := (if_pos c_6).symm.trans hfn
  refine lv_lload hx hb dX6_lowest_20 (lv_at hl 0 rfl) ?_
  have ho := Option.some.inj hfn
  subst ho
  exact zrl hx hb hr hK hP hD hS hQ rfl hlocks dX6_lowest_22
theorem zn_X6_highest_X4 : ∀ w ∈ wsX40, w ∈ wsX6_highest := fun _ h => List.mem_cons_of_mem _ (List.mem_append_left _ (List.mem_append_right _ h))
theorem zw_X6_highest_75 : Cond.fieldLink RX6 72 "ShortEnough$Numbers" "op" "[I" ∈ wsX6_highest := List.mem_of_getElem? (i := 1) (by decide +kernel)
theorem zw_X6_highest_76 : Cond.methodLink RX6 63 Lib.MathLoose.max_long.x ∈ wsX6_highest := List.mem_of_getElem? (i := 2) (by decide +kernel)
theorem zw_X6_highest_77 : Cond.static Lib.MathLoose.max_long.x ∈ wsX6_highest := List.mem_of_getElem? (i := 3) (by decide +kernel)
theorem zw_X6_highest_78 : Cond.initialized "java/lang/Math" ∈ wsX6_highest := List.mem_of_getElem? (i := 4) (by decide +kernel)
theorem zw_X6_highest_79 : Cond.code Lib.MathLoose.max_long.x Lib.MathLoose.max_long.code 4 (some .long) ∈ wsX6_highest := List.mem_of_getElem? (i := 5) (by decide +kernel)
theorem zw_X6_highest_80 : Cond.initialized RX11 ∈ wsX6_highest := List.mem_of_getElem? (i := 30) (by decide +kernel)
theorem zw_X6_highest_81 : Cond.static yX11_apply ∈ wsX6_highest := List.mem_of_getElem? (i := 29) (by decide +kernel)
set_option maxHeartbeats 4000000 in
set_option maxRecDepth 100000 in
theorem zf_X6_highest (l : Launch) (dC : Nat → ClassId) (dI : Nat → Nat → Nat) (h0 : Nat) (h1 : Nat) (p2 : Int32) (r0_0 : Nat) (r0_1 : Nat) (r0_2 : Nat) (v1_0 : Int32) (v1_1 : Int32) (r1_2 : Nat) (r1_3 : Nat) (r1_4 : Nat) (r1_5 : Nat) (r1_6 : Nat) (r1_7 : Nat) (r1_8 : Nat) (r1_9 : Nat) (k2 : Nat) (f2 : Nat → Int32) (k3 : Nat) (f3 : Nat → Int32) (k4 : Nat) (f4 : Nat → Int32) (k5 : Nat) (f5 : Nat → Int64) (k6 : Nat) (f6 : Nat → Int64) (o : Int64) (hfn : fn_X6_highest p2 v1_0 f2 f3 f4 f5 f6 = some o) (sz : Nat) : zNl [(RX6, 83, yX11_apply, RX11)] l yX6_highest wsX6_highest ({ frames := 4, cells := 0, slots := 0, locals := 107 }) (dC, dI) vwCl [.ref h0, .ref h1, .int p2] [zV6 h0 r0_0 r0_1 r0_2, zV4 h1 v1_0 v1_1 r1_2 r1_3 r1_4 r1_5 r1_6 r1_7 r1_8 r1_9, zVi r1_3 k2 14 f2, zVi r1_8 k3 28 f3, zVi r1_9 k4 28 f4, zVl r0_1 k5 14 f5, zVl r0_0 k6 14 f6] [(k2, .int), (k3, .int), (k4, .int), (k5, .long), (k6, .long)] (fun r _ => r = o) [zV6 h0 r0_0 r0_1 r0_2, zV4 h1 v1_0 v1_1 r1_2 r1_3 r1_4 r1_5 r1_6 r1_7 r1_8 r1_9, zVi r1_3 k2 14 f2, zVi r1_8 k3 28 f3, zVi r1_9 k4 28 f4, zVl r0_1 k5 14 f5, zVl r0_0 k6 14 f6] [(k2, .int), (k3, .int), (k4, .int), (k5, .long), (k6, .long)] sz := by
  refine zgoNl (cc := cX6_highest) (maxL := 8) (ret := (some .long)) (C0 := RX6) (lv0 := [(0, .ref h0), (1, .ref h1), (2, .int p2)]) zpl_X6 rfl rfl rfl (Nat.le_of_ble_eq_true rfl) ?_
  intro p e s m below meth c A ls Q hN hx hb hr hts hown hlocks hml hP hK hD hA hS hl hQ
  have hn0 : va_Nw (.methodLinkNest RX6 83 yX11_apply RX11) s := hN.1
  unfold fn_X6_highest at hfn
  refine lv_aload_n hx hb dX6_highest_0 rfl (lv_at hl 1 rfl) ?_
  refine va_get (D := (dC, dI)) (ci := 4) (v := .ref r1_3) (C := RX4) (T := TX4) (N := 10) hx hb hts zn_X6_highest_X4 hown hK hP 1 rfl rfl 3 (of_decide_eq_true rfl) (hts (.fieldLink RX6 72 "ShortEnough$Numbers" "op" "[I") zw_X6_highest_75) (fun _ h9 => h9) rfl dX6_highest_1 ?_
  refine lv_iload_n hx hb dX6_highest_4 rfl (lv_at hl 2 rfl) ?_
  obtain ⟨h_1, hfn⟩ := zg_s hfn
  refine va_iald hx hb hK hP 2 0 rfl rfl h_1 dX6_highest_5 ?_
  refine lv_istore_n (lv' := [(3, .int (f2 p2.toNatClampNeg)), (0, .ref h0), (1, .ref h1), (2, .int p2)]) hx hb dX6_highest_6 rfl hl (of_decide_eq_true rfl) rfl (fun ls hl => ?_)
  refine lv_iload_n hx hb dX6_highest_7 rfl (lv_at hl 0 rfl) ?_
  refine lv_if_ne (tgt := 19) hx hb dX6_highest_8 (of_decide_eq_true rfl) (fun c_2 => ?_) (fun c_2 => ?_)
  · have hfn := (if_neg c_2).symm.trans hfn
    refine lv_aload_n hx hb dX6_highest_19 rfl (lv_at hl 1 rfl) ?_
    refine lv_aload_n hx hb dX6_highest_20 rfl (lv_at hl 2 rfl) ?_
    refine lv_iload_n hx hb dX6_highest_21 rfl (lv_at hl 3 rfl) ?_
    refine lv_iconst (v := 0) hx hb dX6_highest_22 zci_0 ?_
    obtain ⟨o_3, hqo_3, hfn⟩ := zb_s hfn
    refine zcVl (ci := 6) (rest := []) (pc' := 26) (ws' := [zV6 h0 r0_0 r0_1 r0_2, zV4 h1 v1_0 v1_1 r1_2 r1_3 r1_4 r1_5 r1_6 r1_7 r1_8 r1_9, zVi r1_3 k2 14 f2, zVi r1_8 k3 28 f3, zVi r1_9 k4 28 f4, zVl r0_1 k5 14 f5, zVl r0_0 k6 14 f6]) hP hK hD hS hA ⟨hx, hb, hml, hown, hts⟩ (zf_X6_highOf l dC dI h0 h1 p2 0 r0_0 r0_1 r0_2 v1_0 v1_1 r1_2 r1_3 r1_4 r1_5 r1_6 r1_7 r1_8 r1_9 k3 f3 k4 f4 k5 f5 o_3 hqo_3 s.heap.size) (cwV 3 hts gX6_highest_X6_highOf rfl rfl rfl zhd_X6_highOf ⟨Nat.le_of_ble_eq_true rfl, Nat.le_of_ble_eq_true rfl⟩) [0, 1, 3, 4, 5] rfl (of_decide_eq_true rfl) [1, 2, 3] rfl rfl rfl rfl hl.1 rfl (Nat.le_of_ble_eq_true rfl) dX6_highest_23 ⟨Nat.le_of_ble_eq_true rfl, Nat.le_of_ble_eq_true rfl⟩ [some 0, some 1, none, some 2, some 3, some 4] (of_decide_eq_true rfl) (of_decide_eq_true rfl) rfl rfl rfl (fun H locs hP hD hS => ?_)
    refine lv_lstore (lv' := [(4, .long o_3), (3, .int (f2 p2.toNatClampNeg)), (0, .ref h0), (1, .ref h1), (2, .int p2)]) hx hb dX6_highest_26 hl (of_decide_eq_true rfl) rfl (fun ls hl => ?_)
    refine lv_iload_n hx hb dX6_highest_28 rfl (lv_at hl 1 rfl) ?_
    refine lv_iconst (v := 3) hx hb dX6_highest_29 zci_3 ?_
    refine lv_icmp_eq (tgt := 67) hx hb dX6_highest_30 (of_decide_eq_true rfl) (fun c_7 => ?_) (fun c_7 => ?_)
    · have hfn := (if_pos c_7).symm.trans hfn
      refine lv_aload_n hx hb dX6_highest_67 rfl (lv_at hl 2 rfl) ?_
      refine lv_aload_n hx hb dX6_highest_68 rfl (lv_at hl 3 rfl) ?_
      refine lv_iload_n hx hb dX6_highest_69 rfl (lv_at hl 4 rfl) ?_
      refine lv_lload hx hb dX6_highest_70 (lv_at hl 0 rfl) ?_
      refine lv_iconst (v := 1) hx hb dX6_highest_72 zci_1 ?_
      obtain ⟨o_8, hqo_8, hfn⟩ := zb_s hfn
      refine zcNVl (ci := 6) (rest := []) (pc' := 76) (ws' := [zV6 h0 r0_0 r0_1 r0_2, zV4 h1 v1_0 v1_1 r1_2 r1_3 r1_4 r1_5 r1_6 r1_7 r1_8 r1_9, zVi r1_3 k2 14 f2, zVi r1_8 k3 28 f3, zVi r1_9 k4 28 f4, zVl r0_1 k5 14 f5, zVl r0_0 k6 14 f6]) hP hK hD hS hA ⟨hx, hb, hml, hown, hts⟩ (zf_X6_endProduct l dC dI h0 h1 p2 o_3 1 r0_0 r0_1 r0_2 v1_0 v1_1 r1_2 r1_3 r1_4 r1_5 r1_6 r1_7 r1_8 r1_9 k3 f3 k4 f4 k6 f6 k5 f5 o_8 hqo_8 H.size) ⟨hn0, trivial⟩ (cwV 4 hts gX6_highest_X6_endProduct rfl rfl rfl zhd_X6_endProduct ⟨Nat.le_of_ble_eq_true rfl, Nat.le_of_ble_eq_true rfl⟩) [0, 1, 3, 4, 6, 5] rfl (of_decide_eq_true rfl) [1, 2, 4, 3] rfl rfl rfl rfl hl.1 rfl (Nat.le_of_ble_eq_true rfl) dX6_highest_73 ⟨Nat.le_of_ble_eq_true rfl, Nat.le_of_ble_eq_true rfl⟩ [some 0, some 1, none, some 2, some 3, some 5, some 4] (of_decide_eq_true rfl) (of_decide_eq_true rfl) rfl rfl rfl (fun H locs hP hD hS => ?_)
      refine lv_aload_n hx hb dX6_highest_76 rfl (lv_at hl 2 rfl) ?_
      refine lv_aload_n hx hb dX6_highest_77 rfl (lv_at hl 3 rfl) ?_
      refine lv_iload_n hx hb dX6_highest_78 rfl (lv_at hl 4 rfl) ?_
      refine lv_aload_n hx hb dX6_highest_79 rfl (lv_at hl 2 rfl) ?_
      refine lv_aload_n hx hb dX6_highest_80 rfl (lv_at hl 3 rfl) ?_
      refine lv_iload_n hx hb dX6_highest_81 rfl (lv_at hl 4 rfl) ?_
      refine lv_iconst (v := 0) hx hb dX6_highest_82 zci_0 ?_
      obtain ⟨o_12, hqo_12, hfn⟩ := zb_s hfn
      refine zcVl (ci := 6) (rest := [.int p2, .ref h1, .ref h0, .long o_8]) (pc' := 86) (ws' := [zV6 h0 r0_0 r0_1 r0_2, zV4 h1 v1_0 v1_1 r1_2 r1_3 r1_4 r1_5 r1_6 r1_7 r1_8 r1_9, zVi r1_3 k2 14 f2, zVi r1_8 k3 28 f3, zVi r1_9 k4 28 f4, zVl r0_1 k5 14 f5, zVl r0_0 k6 14 f6]) hP hK hD hS hA ⟨hx, hb, hml, hown, hts⟩ (zf_X6_lowOf l dC dI h0 h1 p2 0 r0_0 r0_1 r0_2 v1_0 v1_1 r1_2 r1_3 r1_4 r1_5 r1_6 r1_7 r1_8 r1_9 k3 f3 k4 f4 k6 f6 o_12 hqo_12 H.size) (cwV 3 hts gX6_highest_X6_lowOf rfl rfl rfl zhd_X6_lowOf ⟨Nat.le_of_ble_eq_true rfl, Nat.le_of_ble_eq_true rfl⟩) [0, 1, 3, 4, 6] rfl (of_decide_eq_true rfl) [1, 2, 4] rfl rfl rfl rfl hl.1 rfl (Nat.le_of_ble_eq_true rfl) dX6_highest_83 ⟨Nat.le_of_ble_eq_true rfl, Nat.le_of_ble_eq_true rfl⟩ [some 0, some 1, none, some 2, some 3, none, some 4] (of_decide_eq_true rfl) (of_decide_eq_true rfl) rfl rfl rfl (fun H locs hP hD hS => ?_)
      refine lv_iconst (v := 1) hx hb dX6_highest_86 zci_1 ?_
      obtain ⟨o_16, hqo_16, hfn⟩ := zb_s hfn
      refine zcNVl (ci := 6) (rest := [.long o_8]) (pc' := 90) (ws' := [zV6 h0 r0_0 r0_1 r0_2, zV4 h1 v1_0 v1_1 r1_2 r1_3 r1_4 r1_5 r1_6 r1_7 r1_8 r1_9, zVi r1_3 k2 14 f2, zVi r1_8 k3 28 f3, zVi r1_9 k4 28 f4, zVl r0_1 k5 14 f5, zVl r0_0 k6 14 f6]) hP hK hD hS hA ⟨hx, hb, hml, hown, hts⟩ (zf_X6_endProduct l dC dI h0 h1 p2 o_12 1 r0_0 r0_1 r0_2 v1_0 v1_1 r1_2 r1_3 r1_4 r1_5 r1_6 r1_7 r1_8 r1_9 k3 f3 k4 f4 k6 f6 k5 f5 o_16 hqo_16 H.size) ⟨hn0, trivial⟩ (cwV 4 hts gX6_highest_X6_endProduct rfl rfl rfl zhd_X6_endProduct ⟨Nat.le_of_ble_eq_true rfl, Nat.le_of_ble_eq_true rfl⟩) [0, 1, 3, 4, 6, 5] rfl (of_decide_eq_true rfl) [1, 2, 4, 3] rfl rfl rfl rfl hl.1 rfl (Nat.le_of_ble_eq_true rfl) dX6_highest_87 ⟨Nat.le_of_ble_eq_true rfl, Nat.le_of_ble_eq_true rfl⟩ [some 0, some 1, none, some 2, some 3, some 5, some 4] (of_decide_eq_true rfl) (of_decide_eq_true rfl) rfl rfl rfl (fun H locs hP hD hS => ?_)
      refine va_mmax_long hx hb (by rw [hml]; exact hl.1.symm) hown (hts (.methodLink RX6 63 Lib.MathLoose.max_long.x) zw_X6_highest_76) (hts (.static Lib.MathLoose.max_long.x) zw_X6_highest_77) (hts (.initialized "java/lang/Math") zw_X6_highest_78) (hts (.code Lib.MathLoose.max_long.x Lib.MathLoose.max_long.code 4 (some .long)) zw_X6_highest_79) (Nat.le_of_ble_eq_true rfl) (Nat.le_of_ble_eq_true rfl) (Nat.le_of_ble_eq_true rfl) (Nat.le_of_ble_eq_true rfl) dX6_highest_90 ?_
      have ho := Option.some.inj hfn
      subst ho
      exact zrl hx hb hr hK hP hD hS hQ rfl hlocks dX6_highest_93
    have hfn := (if_neg c_7).symm.trans hfn
    refine lv_iload_n hx hb dX6_highest_33 rfl (lv_at hl 1 rfl) ?_
    refine lv_iconst (v := 2) hx hb dX6_highest_34 zci_2 ?_
    refine lv_icmp_ne (tgt := 48) hx hb dX6_highest_35 (of_decide_eq_true rfl) (fun c_20 => ?_) (fun c_20 => ?_)
    · have hfn := (if_neg c_20).symm.trans hfn
      refine lv_aload_n hx hb dX6_highest_48 rfl (lv_at hl 2 rfl) ?_
      refine lv_aload_n hx hb dX6_highest_49 rfl (lv_at hl 3 rfl) ?_
      refine lv_iload_n hx hb dX6_highest_50 rfl (lv_at hl 4 rfl) ?_
      refine lv_iconst (v := 1) hx hb dX6_highest_51 zci_1 ?_
      obtain ⟨o_21, hqo_21, hfn⟩ := zb_s hfn
      refine zcVl (ci := 6) (rest := []) (pc' := 55) (ws' := [zV6 h0 r0_0 r0_1 r0_2, zV4 h1 v1_0 v1_1 r1_2 r1_3 r1_4 r1_5 r1_6 r1_7 r1_8 r1_9, zVi r1_3 k2 14 f2, zVi r1_8 k3 28 f3, zVi r1_9 k4 28 f4, zVl r0_1 k5 14 f5, zVl r0_0 k6 14 f6]) hP hK hD hS hA ⟨hx, hb, hml, hown, hts⟩ (zf_X6_highOf l dC dI h0 h1 p2 1 r0_0 r0_1 r0_2 v1_0 v1_1 r1_2 r1_3 r1_4 r1_5 r1_6 r1_7 r1_8 r1_9 k3 f3 k4 f4 k5 f5 o_21 hqo_21 H.size) (cwV 3 hts gX6_highest_X6_highOf rfl rfl rfl zhd_X6_highOf ⟨Nat.le_of_ble_eq_true rfl, Nat.le_of_ble_eq_true rfl⟩) [0, 1, 3, 4, 5] rfl (of_decide_eq_true rfl) [1, 2, 3] rfl rfl rfl rfl hl.1 rfl (Nat.le_of_ble_eq_true rfl) dX6_highest_52 ⟨Nat.le_of_ble_eq_true rfl, Nat.le_of_ble_eq_true rfl⟩ [some 0, some 1, none, some 2, some 3, some 4] (of_decide_eq_true rfl) (of_decide_eq_true rfl) rfl rfl rfl (fun H locs hP hD hS => ?_)
      refine lv_lstore (lv' := [(6, .long o_21), (4, .long o_3), (3, .int (f2 p2.toNatClampNeg)), (0, .ref h0), (1, .ref h1), (2, .int p2)]) hx hb dX6_highest_55 hl (of_decide_eq_true rfl) rfl (fun ls hl => ?_)
      refine lv_iload_n hx hb dX6_highest_57 rfl (lv_at hl 2 rfl) ?_
      refine lv_lload hx hb dX6_highest_58 (lv_at hl 1 rfl) ?_
      refine lv_lload hx hb dX6_highest_60 (lv_at hl 0 rfl) ?_
      refine lv_lconst (v := 1) hx hb dX6_highest_62 (by decide +kernel) ?_
      obtain ⟨o_25, hqo_25, hfn⟩ := zb_s hfn
      have hC := zC hP [] (wc := []) rfl
      have hPc := hP.sub [] (zfm hC)
      have hDc := hD.sub [] (of_decide_eq_true rfl) hC
      have hKc := hK.sub (tys' := []) [] rfl
      have hFc := va_free hD hS hA [] hC
      refine va_calll (va_runSN (As := [.int (f2 p2.toNatClampNeg), .long o_3, .long o_21, .long 1]) (rest := []) ⟨hx, hb, hml, hown, hts⟩ (zf_X11_apply l dC dI (f2 p2.toNatClampNeg) o_3 o_21 (1 : Int64) o_25 hqo_25 H.size) ⟨va_cnB (host := RX11) 4 hts gX6_highest_X11_apply_n83 rfl rfl rfl hn0 (hts (.initialized RX11) zw_X6_highest_80) (by decide +kernel) ⟨Nat.le_of_ble_eq_true rfl, Nat.le_of_ble_eq_true rfl⟩, (hts (.static yX11_apply) zw_X6_highest_81), trivial⟩ ⟨fun a U g mk q => by obtain ⟨q0, q1, qP, qK, qD⟩ := q; exact ⟨q0, q1, qP, va_K.moved (u := U) (U := U.calling g mk a) (Vm.Alike.refl U.vm) qK, qD⟩, fun U hU hW => ⟨rfl, by rw [hU], by rw [hU]; exact hPc, va_K.moved hW.alike hKc, hDc.weaken (fun _ _ _ _ => trivial)⟩⟩ rfl rfl hl.1 rfl (lv_room (Nat.le_of_ble_eq_true rfl)) dX6_highest_63 ⟨Nat.le_of_ble_eq_true rfl, Nat.le_of_ble_eq_true rfl⟩) hS (fun q _ h => hFc q h) hFc (fun r_26 u_27 t H1 locs ht hvm hw_28 hB hz1 hk1 hS => ?_)
      obtain ⟨hP1, hK1, hD1⟩ := hB
      rw [ht] at hP1
      have hK1 := va_K.moved hvm.symm hK1
      obtain ⟨hP, hD⟩ := zjn (ws' := [zV6 h0 r0_0 r0_1 r0_2, zV4 h1 v1_0 v1_1 r1_2 r1_3 r1_4 r1_5 r1_6 r1_7 r1_8 r1_9, zVi r1_3 k2 14 f2, zVi r1_8 k3 28 f3, zVi r1_9 k4 28 f4, zVl r0_1 k5 14 f5, zVl r0_0 k6 14 f6]) hP hD [] hC hk1 hFc hP1 hD1 [] (of_decide_eq_true rfl) (of_decide_eq_true rfl) rfl rfl
      generalize H1 = H at hP hS ⊢
      refine W.eq (g2 := F0 m 66 ls [.long o_25]) (by rw [hw_28]) ?_
      have ho := Option.some.inj hfn
      subst ho
      exact zrl hx hb hr hK hP hD hS hQ rfl hlocks dX6_highest_66
    have hfn := (if_pos c_20).symm.trans hfn
    refine lv_aload_n hx hb dX6_highest_38 rfl (lv_at hl 2 rfl) ?_
    refine lv_aload_n hx hb dX6_highest_39 rfl (lv_at hl 3 rfl) ?_
    refine lv_iload_n hx hb dX6_highest_40 rfl (lv_at hl 4 rfl) ?_
    refine lv_iconst (v := 1) hx hb dX6_highest_41 zci_1 ?_
    obtain ⟨o_29, hqo_29, hfn⟩ := zb_s hfn
    refine zcVl (ci := 6) (rest := []) (pc' := 45) (ws' := [zV6 h0 r0_0 r0_1 r0_2, zV4 h1 v1_0 v1_1 r1_2 r1_3 r1_4 r1_5 r1_6 r1_7 r1_8 r1_9, zVi r1_3 k2 14 f2, zVi r1_8 k3 28 f3, zVi r1_9 k4 28 f4, zVl r0_1 k5 14 f5, zVl r0_0 k6 14 f6]) hP hK hD hS hA ⟨hx, hb, hml, hown, hts⟩ (zf_X6_lowOf l dC dI h0 h1 p2 1 r0_0 r0_1 r0_2 v1_0 v1_1 r1_2 r1_3 r1_4 r1_5 r1_6 r1_7 r1_8 r1_9 k3 f3 k4 f4 k6 f6 o_29 hqo_29 H.size) (cwV 3 hts gX6_highest_X6_lowOf rfl rfl rfl zhd_X6_lowOf ⟨Nat.le_of_ble_eq_true rfl, Nat.le_of_ble_eq_true rfl⟩) [0, 1, 3, 4, 6] rfl (of_decide_eq_true rfl) [1, 2, 4] rfl rfl rfl rfl hl.1 rfl (Nat.le_of_ble_eq_true rfl) dX6_highest_42 ⟨Nat.le_of_ble_eq_true rfl, Nat.le_of_ble_eq_true rfl⟩ [some 0, some 1, none, some 2, some 3, none, some 4] (of_decide_eq_true rfl) (of_decide_eq_true rfl) rfl rfl rfl (fun H locs hP hD hS => ?_)
    refine lv_goto (tgt := 55) hx hb dX6_highest_45 (of_decide_eq_true rfl) ?_
    refine lv_lstore (lv' := [(6, .long o_29), (4, .long o_3), (3, .int (f2 p2.toNatClampNeg)), (0, .ref h0), (1, .ref h1), (2, .int p2)]) hx hb dX6_highest_55 hl (of_decide_eq_true rfl) rfl (fun ls hl => ?_)
    refine lv_iload_n hx hb dX6_highest_57 rfl (lv_at hl 2 rfl) ?_
    refine lv_lload hx hb dX6_highest_58 (lv_at hl 1 rfl) ?_
    refine lv_lload hx hb dX6_highest_60 (lv_at hl 0 rfl) ?_
    refine lv_lconst (v := 1) hx hb dX6_highest_62 (by decide +kernel) ?_
    obtain ⟨o_33, hqo_33, hfn⟩ := zb_s hfn
    have hC := zC hP [] (wc := []) rfl
    have hPc := hP.sub [] (zfm hC)
    have hDc := hD.sub [] (of_decide_eq_true rfl) hC
    have hKc := hK.sub (tys' := []) [] rfl
    have hFc := va_free hD hS hA [] hC
    refine va_calll (va_runSN (As := [.int (f2 p2.toNatClampNeg), .long o_3, .long o_29, .long 1]) (rest := []) ⟨hx, hb, hml, hown, hts⟩ (zf_X11_apply l dC dI (f2 p2.toNatClampNeg) o_3 o_29 (1 : Int64) o_33 hqo_33 H.size) ⟨va_cnB (host := RX11) 4 hts gX6_highest_X11_apply_n83 rfl rfl rfl hn0 (hts (.initialized RX11) zw_X6_highest_80) (by decide +kernel) ⟨Nat.le_of_ble_eq_true rfl, Nat.le_of_ble_eq_true rfl⟩, (hts (.static yX11_apply) zw_X6_highest_81), trivial⟩ ⟨fun a U g mk q => by obtain ⟨q0, q1, qP, qK, qD⟩ := q; exact ⟨q0, q1, qP, va_K.moved (u := U) (U := U.calling g mk a) (Vm.Alike.refl U.vm) qK, qD⟩, fun U hU hW => ⟨rfl, by rw [hU], by rw [hU]; exact hPc, va_K.moved hW.alike hKc, hDc.weaken (fun _ _ _ _ => trivial)⟩⟩ rfl rfl hl.1 rfl (lv_room (Nat.le_of_ble_eq_true rfl)) dX6_highest_63 ⟨Nat.le_of_ble_eq_true rfl, Nat.le_of_ble_eq_true rfl⟩) hS (fun q _ h => hFc q h) hFc (fun r_34 u_35 t H1 locs ht hvm hw_36 hB hz1 hk1 hS => ?_)
    obtain ⟨hP1, hK1, hD1⟩ := hB
    rw [ht] at hP1
    have hK1 := va_K.moved hvm.symm hK1
    obtain ⟨hP, hD⟩ := zjn (ws' := [zV6 h0 r0_0 r0_1 r0_2, zV4 h1 v1_0 v1_1 r1_2 r1_3 r1_4 r1_5 r1_6 r1_7 r1_8 r1_9, zVi r1_3 k2 14 f2, zVi r1_8 k3 28 f3, zVi r1_9 k4 28 f4, zVl r0_1 k5 14 f5, zVl r0_0 k6 14 f6]) hP hD [] hC hk1 hFc hP1 hD1 [] (of_decide_eq_true rfl) (of_decide_eq_true rfl) rfl rfl
    generalize H1 = H at hP hS ⊢
    refine W.eq (g2 := F0 m 66 ls [.long o_33]) (by rw [hw_36]) ?_
    have ho := Option.some.inj hfn
    subst ho
    exact zrl hx hb hr hK hP hD hS hQ rfl hlocks dX6_highest_66
  have hfn := (if_pos c_2).symm.trans hfn
  refine lv_aload_n hx hb dX6_highest_11 rfl (lv_at hl 1 rfl) ?_
  refine lv_aload_n hx hb dX6_highest_12 rfl (lv_at hl 2 rfl) ?_
  refine lv_iload_n hx hb dX6_highest_13 rfl (lv_at hl 3 rfl) ?_
  refine lv_iconst (v := 1) hx hb dX6_highest_14 zci_1 ?_
  obtain ⟨o_37, hqo_37, hfn⟩ := zb_s hfn
  refine zcVl (ci := 6) (rest := []) (pc' := 18) (ws' := [zV6 h0 r0_0 r0_1 r0_2, zV4 h1 v1_0 v1_1 r1_2 r1_3 r1_4 r1_5 r1_6 r1_7 r1_8 r1_9, zVi r1_3 k2 14 f2, zVi r1_8 k3 28 f3, zVi r1_9 k4 28 f4, zVl r0_1 k5 14 f5, zVl r0_0 k6 14 f6]) hP hK hD hS hA ⟨hx, hb, hml, hown, hts⟩ (zf_X6_highOf l dC dI h0 h1 p2 1 r0_0 r0_1 r0_2 v1_0 v1_1 r1_2 r1_3 r1_4 r1_5 r1_6 r1_7 r1_8 r1_9 k3 f3 k4 f4 k5 f5 o_37 hqo_37 s.heap.size) (cwV 3 hts gX6_highest_X6_highOf rfl rfl rfl zhd_X6_highOf ⟨Nat.le_of_ble_eq_true rfl, Nat.le_of_ble_eq_true rfl⟩) [0, 1, 3, 4, 5] rfl (of_decide_eq_true rfl) [1, 2, 3] rfl rfl rfl rfl hl.1 rfl (Nat.le_of_ble_eq_true rfl) dX6_highest_15 ⟨Nat.le_of_ble_eq_true rfl, Nat.le_of_ble_eq_true rfl⟩ [some 0, some 1, none, some 2, some 3, some 4] (of_decide_eq_true rfl) (of_decide_eq_true rfl) rfl rfl rfl (fun H locs hP hD hS => ?_)
  have ho := Option.some.inj hfn
  subst ho
  exact zrl hx hb hr hK hP hD hS hQ rfl hlocks dX6_highest_18
theorem zn_X9_formatOf_X9 : ∀ w ∈ wsX90, w ∈ wsX9_formatOf := fun _ h => List.mem_cons_of_mem _ (List.mem_append_left _ (List.mem_append_left _ (List.mem_append_right _ h)))
theorem zw_X9_formatOf_83 : Cond.fieldLink RX9 27 "ShortEnough$Task" "numbers" "LShortEnough$Numbers;" ∈ wsX9_formatOf := List.mem_of_getElem? (i := 1) (by decide +kernel)
theorem zn_X9_formatOf_X4 : ∀ w ∈ wsX40, w ∈ wsX9_formatOf := fun _ h => List.mem_cons_of_mem _ (List.mem_append_left _ (List.mem_append_right _ h))
theorem zw_X9_formatOf_85 : Cond.fieldLink RX9 52 "ShortEnough$Numbers" "count" "I" ∈ wsX9_formatOf := List.mem_of_getElem? (i := 2) (by decide +kernel)
theorem zw_X9_formatOf_86 : Cond.fieldLink RX9 34 "ShortEnough$Task" "groups" "LShortEnough$Groups;" ∈ wsX9_formatOf := List.mem_of_getElem? (i := 3) (by decide +kernel)
theorem zn_X9_formatOf_X2 : ∀ w ∈ wsX20, w ∈ wsX9_formatOf := fun _ h => List.mem_cons_of_mem _ (List.mem_append_right _ h)
theorem zw_X9_formatOf_88 : Cond.fieldLink RX9 80 "ShortEnough$Groups" "of" "[I" ∈ wsX9_formatOf := List.mem_of_getElem? (i := 4) (by decide +kernel)
set_option maxHeartbeats 4000000 in
set_option maxRecDepth 100000 in
theorem zf_X9_formatOf (l : Launch) (dC : Nat → ClassId) (dI : Nat → Nat → Nat) (h0 : Nat) (h1 : Nat) (p2 : Int32) (v0_0 : Int32) (r0_1 : Nat) (r0_2 : Nat) (r0_3 : Nat) (r0_4 : Nat) (v0_5 : Int32) (r0_6 : Nat) (r0_7 : Nat) (r0_8 : Nat) (v1_0 : Int32) (v1_1 : Int32) (r1_2 : Nat) (r1_3 : Nat) (r1_4 : Nat) (r1_5 : Nat) (r1_6 : Nat) (r1_7 : Nat) (r1_8 : Nat) (r1_9 : Nat) (v2_0 : Int32) (v2_1 : Int32) (v2_2 : Int32) (r2_3 : Nat) (r2_4 : Nat) (r2_5 : Nat) (k3 : Nat) (f3 : Nat → Int32) (k4 : Nat) (f4 : Nat → Int32) (o : Int32) (hfn : fn_X9_formatOf p2 v1_0 f3 f4 = some o) (sz : Nat) : zMi l yX9_formatOf wsX9_formatOf ({ frames := 0, cells := 0, slots := 0, locals := 0 }) (dC, dI) vwCl [.ref h0, .ref h1, .int p2] [zV9 h0 v0_0 r0_1 r0_2 r0_3 r0_4 v0_5 r0_6 r0_7 r0_8, zV4 r0_6 v1_0 v1_1 r1_2 r1_3 r1_4 r1_5 r1_6 r1_7 r1_8 r1_9, zV2 r0_7 v2_0 v2_1 v2_2 r2_3 r2_4 r2_5, zVi r2_3 k3 14 f3, zVi h1 k4 14 f4] [(k3, .int), (k4, .int)] (fun r _ => r = o) [zV9 h0 v0_0 r0_1 r0_2 r0_3 r0_4 v0_5 r0_6 r0_7 r0_8, zV4 r0_6 v1_0 v1_1 r1_2 r1_3 r1_4 r1_5 r1_6 r1_7 r1_8 r1_9, zV2 r0_7 v2_0 v2_1 v2_2 r2_3 r2_4 r2_5, zVi r2_3 k3 14 f3, zVi h1 k4 14 f4] [(k3, .int), (k4, .int)] sz := by
  refine zgoi (cc := cX9_formatOf) (maxL := 4) (ret := (some .int)) (C0 := RX9) (lv0 := [(0, .ref h0), (1, .ref h1), (2, .int p2)]) zpl_X9 rfl rfl rfl (Nat.le_of_ble_eq_true rfl) ?_
  intro p e s m below meth c A ls Q hx hb hr hts hown hlocks hml hP hK hD hA hS hl hQ
  unfold fn_X9_formatOf at hfn
  refine lv_iload_n hx hb dX9_formatOf_0 rfl (lv_at hl 2 rfl) ?_
  obtain ⟨j_1, ej_1, hfn⟩ := zj_g hfn
  have jp_1 : ∀ (s_1 : Int32) (H : Heap) (locs : List Loc) (ls : Array Slot), j_1 s_1 = some o → va_P (dC, dI) vwCl [zV9 h0 v0_0 r0_1 r0_2 r0_3 r0_4 v0_5 r0_6 r0_7 r0_8, zV4 r0_6 v1_0 v1_1 r1_2 r1_3 r1_4 r1_5 r1_6 r1_7 r1_8 r1_9, zV2 r0_7 v2_0 v2_1 v2_2 r2_3 r2_4 r2_5, zVi r2_3 k3 14 f3, zVi h1 k4 14 f4] H → va_D A [zV9 h0 v0_0 r0_1 r0_2 r0_3 r0_4 v0_5 r0_6 r0_7 r0_8, zV4 r0_6 v1_0 v1_1 r1_2 r1_3 r1_4 r1_5 r1_6 r1_7 r1_8 r1_9, zV2 r0_7 v2_0 v2_1 v2_2 r2_3 r2_4 r2_5, zVi r2_3 k3 14 f3, zVi h1 k4 14 f4] → va_S A s.heap H locs → lv_has ls 4 [(1, .ref h1)] → W p l e (headSpec wsX9_formatOf ({ frames := 0, cells := 0, slots := 0, locals := 0 })).room s m ([.ref h0, .ref h1, .int p2] : List Value).toArray below meth c H locs 0 0 Q (F0 m 28 ls [.int s_1]) := by
    intro s_1 H locs ls hfn hP hD hS hl
    have hfn := zj_s ej_1 hfn
    refine lv_istore_n (lv' := [(3, .int s_1), (1, .ref h1)]) hx hb dX9_formatOf_28 rfl hl (of_decide_eq_true rfl) rfl (fun ls hl => ?_)
    refine lv_iload_n hx hb dX9_formatOf_29 rfl (lv_at hl 0 rfl) ?_
    refine lv_if_lt (tgt := 45) hx hb dX9_formatOf_30 (of_decide_eq_true rfl) (fun c_2 => ?_) (fun c_2 => ?_)
    · have hfn := (if_pos c_2).symm.trans hfn
      refine lv_iconst (v := (-1)) hx hb dX9_formatOf_45 zci_m1 ?_
      have ho := Option.some.inj hfn
      subst ho
      exact zri hx hb hr hK hP hD hS hQ rfl hlocks dX9_formatOf_46
    have hfn := (if_neg c_2).symm.trans hfn
    refine lv_iload_n hx hb dX9_formatOf_33 rfl (lv_at hl 0 rfl) ?_
    refine lv_aload_n hx hb dX9_formatOf_34 rfl (lv_at hl 1 rfl) ?_
    refine va_alen (v := 14) hx hb hK hP 4 1 rfl rfl (show Int32.ofNat 14 = 14 by decide +kernel) dX9_formatOf_35 ?_
    refine lv_icmp_ge (tgt := 45) hx hb dX9_formatOf_36 (of_decide_eq_true rfl) (fun c_3 => ?_) (fun c_3 => ?_)
    · have hfn := (if_pos c_3).symm.trans hfn
      refine lv_iconst (v := (-1)) hx hb dX9_formatOf_45 zci_m1 ?_
      have ho := Option.some.inj hfn
      subst ho
      exact zri hx hb hr hK hP hD hS hQ rfl hlocks dX9_formatOf_46
    have hfn := (if_neg c_3).symm.trans hfn
    refine lv_aload_n hx hb dX9_formatOf_39 rfl (lv_at hl 1 rfl) ?_
    refine lv_iload_n hx hb dX9_formatOf_40 rfl (lv_at hl 0 rfl) ?_
    obtain ⟨h_4, hfn⟩ := zg_s hfn
    refine va_iald hx hb hK hP 4 1 rfl rfl h_4 dX9_formatOf_41 ?_
    refine lv_goto (tgt := 46) hx hb dX9_formatOf_42 (of_decide_eq_true rfl) ?_
    have ho := Option.some.inj hfn
    subst ho
    exact zri hx hb hr hK hP hD hS hQ rfl hlocks dX9_formatOf_46
  obtain ⟨j_5, ej_5, hfn⟩ := zj_g hfn
  have jp_5 : ∀ (s_5 : Unit) (H : Heap) (locs : List Loc) (ls : Array Slot), j_5 s_5 = some o → va_P (dC, dI) vwCl [zV9 h0 v0_0 r0_1 r0_2 r0_3 r0_4 v0_5 r0_6 r0_7 r0_8, zV4 r0_6 v1_0 v1_1 r1_2 r1_3 r1_4 r1_5 r1_6 r1_7 r1_8 r1_9, zV2 r0_7 v2_0 v2_1 v2_2 r2_3 r2_4 r2_5, zVi r2_3 k3 14 f3, zVi h1 k4 14 f4] H → va_D A [zV9 h0 v0_0 r0_1 r0_2 r0_3 r0_4 v0_5 r0_6 r0_7 r0_8, zV4 r0_6 v1_0 v1_1 r1_2 r1_3 r1_4 r1_5 r1_6 r1_7 r1_8 r1_9, zV2 r0_7 v2_0 v2_1 v2_2 r2_3 r2_4 r2_5, zVi r2_3 k3 14 f3, zVi h1 k4 14 f4] → va_S A s.heap H locs → lv_has ls 4 [(1, .ref h1)] → W p l e (headSpec wsX9_formatOf ({ frames := 0, cells := 0, slots := 0, locals := 0 })).room s m ([.ref h0, .ref h1, .int p2] : List Value).toArray below meth c H locs 0 0 Q (F0 m 27 ls []) := by
    intro s_5 H locs ls hfn hP hD hS hl
    have hfn := zj_s ej_5 hfn
    refine lv_iconst (v := (-1)) hx hb dX9_formatOf_27 zci_m1 ?_
    exact jp_1 (-1) H locs ls hfn hP hD hS (lv_sub hl [0] rfl)
  refine lv_if_lt (tgt := 27) hx hb dX9_formatOf_1 (of_decide_eq_true rfl) (fun c_6 => ?_) (fun c_6 => ?_)
  · have hfn := (if_pos c_6).symm.trans hfn
    exact jp_5 () s.heap [] ls hfn hP hD hS (lv_sub hl [1] rfl)
  have hfn := (if_neg c_6).symm.trans hfn
  refine lv_iload_n hx hb dX9_formatOf_4 rfl (lv_at hl 2 rfl) ?_
  refine lv_aload_n hx hb dX9_formatOf_5 rfl (lv_at hl 0 rfl) ?_
  refine va_get (D := (dC, dI)) (ci := 9) (v := .ref r0_6) (C := RX9) (T := TX9) (N := 9) hx hb hts zn_X9_formatOf_X9 hown hK hP 0 rfl rfl 6 (of_decide_eq_true rfl) (hts (.fieldLink RX9 27 "ShortEnough$Task" "numbers" "LShortEnough$Numbers;") zw_X9_formatOf_83) (fun _ h9 => h9) rfl dX9_formatOf_6 ?_
  refine va_get (D := (dC, dI)) (ci := 4) (v := .int v1_0) (C := RX4) (T := TX4) (N := 10) hx hb hts zn_X9_formatOf_X4 hown hK hP 1 rfl rfl 0 (of_decide_eq_true rfl) (hts (.fieldLink RX9 52 "ShortEnough$Numbers" "count" "I") zw_X9_formatOf_85) (fun _ h9 => h9) rfl dX9_formatOf_9 ?_
  refine lv_icmp_ge (tgt := 27) hx hb dX9_formatOf_12 (of_decide_eq_true rfl) (fun c_7 => ?_) (fun c_7 => ?_)
  · have hfn := (if_pos c_7).symm.trans hfn
    exact jp_5 () s.heap [] ls hfn hP hD hS (lv_sub hl [1] rfl)
  have hfn := (if_neg c_7).symm.trans hfn
  refine lv_aload_n hx hb dX9_formatOf_15 rfl (lv_at hl 0 rfl) ?_
  refine va_get (D := (dC, dI)) (ci := 9) (v := .ref r0_7) (C := RX9) (T := TX9) (N := 9) hx hb hts zn_X9_formatOf_X9 hown hK hP 0 rfl rfl 7 (of_decide_eq_true rfl) (hts (.fieldLink RX9 34 "ShortEnough$Task" "groups" "LShortEnough$Groups;") zw_X9_formatOf_86) (fun _ h9 => h9) rfl dX9_formatOf_16 ?_
  refine va_get (D := (dC, dI)) (ci := 2) (v := .ref r2_3) (C := RX2) (T := TX2) (N := 6) hx hb hts zn_X9_formatOf_X2 hown hK hP 2 rfl rfl 3 (of_decide_eq_true rfl) (hts (.fieldLink RX9 80 "ShortEnough$Groups" "of" "[I") zw_X9_formatOf_88) (fun _ h9 => h9) rfl dX9_formatOf_19 ?_
  refine lv_iload_n hx hb dX9_formatOf_22 rfl (lv_at hl 2 rfl) ?_
  obtain ⟨h_8, hfn⟩ := zg_s hfn
  refine va_iald hx hb hK hP 3 0 rfl rfl h_8 dX9_formatOf_23 ?_
  refine lv_goto (tgt := 28) hx hb dX9_formatOf_24 (of_decide_eq_true rfl) ?_
  exact jp_1 (f3 p2.toNatClampNeg) s.heap [] ls hfn hP hD hS (lv_sub hl [1] rfl)
theorem zn_X9_stepOf_X9 : ∀ w ∈ wsX90, w ∈ wsX9_stepOf := fun _ h => List.mem_cons_of_mem _ (List.mem_append_right _ h)
theorem zw_X9_stepOf_90 : Cond.fieldLink RX9 45 "ShortEnough$Task" "formats" "I" ∈ wsX9_stepOf := List.mem_of_getElem? (i := 1) (by decide +kernel)
theorem zw_X9_stepOf_91 : Cond.fieldLink RX9 15 "ShortEnough$Task" "step" "[I" ∈ wsX9_stepOf := List.mem_of_getElem? (i := 2) (by decide +kernel)
set_option maxHeartbeats 4000000 in
set_option maxRecDepth 100000 in
theorem zf_X9_stepOf (l : Launch) (dC : Nat → ClassId) (dI : Nat → Nat → Nat) (h0 : Nat) (p1 : Int32) (v0_0 : Int32) (r0_1 : Nat) (r0_2 : Nat) (r0_3 : Nat) (r0_4 : Nat) (v0_5 : Int32) (r0_6 : Nat) (r0_7 : Nat) (r0_8 : Nat) (k1 : Nat) (f1 : Nat → Int32) (o : Int32) (hfn : fn_X9_stepOf p1 v0_0 f1 = some o) (sz : Nat) : zMi l yX9_stepOf wsX9_stepOf ({ frames := 0, cells := 0, slots := 0, locals := 0 }) (dC, dI) vwCl [.ref h0, .int p1] [zV9 h0 v0_0 r0_1 r0_2 r0_3 r0_4 v0_5 r0_6 r0_7 r0_8, zVi r0_2 k1 4 f1] [(k1, .int)] (fun r _ => r = o) [zV9 h0 v0_0 r0_1 r0_2 r0_3 r0_4 v0_5 r0_6 r0_7 r0_8, zVi r0_2 k1 4 f1] [(k1, .int)] sz := by
  refine zgoi (cc := cX9_stepOf) (maxL := 2) (ret := (some .int)) (C0 := RX9) (lv0 := [(0, .ref h0), (1, .int p1)]) zpl_X9 rfl rfl rfl (Nat.le_of_ble_eq_true rfl) ?_
  intro p e s m below meth c A ls Q hx hb hr hts hown hlocks hml hP hK hD hA hS hl hQ
  unfold fn_X9_stepOf at hfn
  refine lv_iload_n hx hb dX9_stepOf_0 rfl (lv_at hl 1 rfl) ?_
  refine lv_if_lt (tgt := 21) hx hb dX9_stepOf_1 (of_decide_eq_true rfl) (fun c_1 => ?_) (fun c_1 => ?_)
  · have hfn := (if_pos c_1).symm.trans hfn
    refine lv_iconst (v := 1) hx hb dX9_stepOf_21 zci_1 ?_
    have ho := Option.some.inj hfn
    subst ho
    exact zri hx hb hr hK hP hD hS hQ rfl hlocks dX9_stepOf_22
  have hfn := (if_neg c_1).symm.trans hfn
  refine lv_iload_n hx hb dX9_stepOf_4 rfl (lv_at hl 1 rfl) ?_
  refine lv_aload_n hx hb dX9_stepOf_5 rfl (lv_at hl 0 rfl) ?_
  refine va_get (D := (dC, dI)) (ci := 9) (v := .int v0_0) (C := RX9) (T := TX9) (N := 9) hx hb hts zn_X9_stepOf_X9 hown hK hP 0 rfl rfl 0 (of_decide_eq_true rfl) (hts (.fieldLink RX9 45 "ShortEnough$Task" "formats" "I") zw_X9_stepOf_90) (fun _ h9 => h9) rfl dX9_stepOf_6 ?_
  refine lv_icmp_ge (tgt := 21) hx hb dX9_stepOf_9 (of_decide_eq_true rfl) (fun c_2 => ?_) (fun c_2 => ?_)
  · have hfn := (if_pos c_2).symm.trans hfn
    refine lv_iconst (v := 1) hx hb dX9_stepOf_21 zci_1 ?_
    have ho := Option.some.inj hfn
    subst ho
    exact zri hx hb hr hK hP hD hS hQ rfl hlocks dX9_stepOf_22
  have hfn := (if_neg c_2).symm.trans hfn
  refine lv_aload_n hx hb dX9_stepOf_12 rfl (lv_at hl 0 rfl) ?_
  refine va_get (D := (dC, dI)) (ci := 9) (v := .ref r0_2) (C := RX9) (T := TX9) (N := 9) hx hb hts zn_X9_stepOf_X9 hown hK hP 0 rfl rfl 2 (of_decide_eq_true rfl) (hts (.fieldLink RX9 15 "ShortEnough$Task" "step" "[I") zw_X9_stepOf_91) (fun _ h9 => h9) rfl dX9_stepOf_13 ?_
  refine lv_iload_n hx hb dX9_stepOf_16 rfl (lv_at hl 1 rfl) ?_
  obtain ⟨h_3, hfn⟩ := zg_s hfn
  refine va_iald hx hb hK hP 1 0 rfl rfl h_3 dX9_stepOf_17 ?_
  refine lv_goto (tgt := 22) hx hb dX9_stepOf_18 (of_decide_eq_true rfl) ?_
  have ho := Option.some.inj hfn
  subst ho
  exact zri hx hb hr hK hP hD hS hQ rfl hlocks dX9_stepOf_22

set_option maxHeartbeats 4000000 in
set_option maxRecDepth 100000 in
theorem zf_X11_divides (l : Launch) (dC : Nat → ClassId) (dI : Nat → Nat → Nat) (j0 : Int64) (j1 : Int64) (o : Int32) (hfn : fn_X11_divides j0 j1 = some o) (sz : Nat) : zMi l yX11_divides wsX11_divides ({ frames := 0, cells := 0, slots := 0, locals := 0 }) (dC, dI) vwCl [.long j0, .long j1] [] [] (fun r _ => r = o ∧ narrow .boolean (.int o) = .int o) [] [] sz := by
  refine zgoi (cc := cX11_divides) (maxL := 4) (ret := (some .boolean)) (C0 := RX11) (lv0 := [(0, .long j0), (2, .long j1)]) zpl_X11 rfl rfl rfl (Nat.le_of_ble_eq_true rfl) ?_
  intro p e s m below meth c A ls Q hx hb hr hts hown hlocks hml hP hK hD hA hS hl hQ
  unfold fn_X11_divides at hfn
  refine lv_lload_n hx hb dX11_divides_0 rfl (lv_at hl 0 rfl) ?_
  refine lv_lconst (v := 0) hx hb dX11_divides_1 (by decide +kernel) ?_
  refine W.lcmp hx hb dX11_divides_2 ?_
  refine lv_if_eq (tgt := 18) hx hb dX11_divides_3 (of_decide_eq_true rfl) (fun c_1 => ?_) (fun c_1 => ?_)
  · have hfn := (if_pos c_1).symm.trans hfn
    refine lv_iconst (v := 0) hx hb dX11_divides_18 zci_0 ?_
    have ho := Option.some.inj hfn
    subst ho
    exact zrz hx hb hr rfl hK hP hD hS hQ ⟨rfl, zB0⟩ hlocks dX11_divides_19
  have hfn := (if_neg c_1).symm.trans hfn
  refine lv_lload_n hx hb dX11_divides_6 rfl (lv_at hl 1 rfl) ?_
  refine lv_lload_n hx hb dX11_divides_7 rfl (lv_at hl 0 rfl) ?_
  obtain ⟨h_2, hfn⟩ := zd_s hfn
  refine lv_lrem hx hb dX11_divides_8 h_2 ?_
  refine lv_lconst (v := 0) hx hb dX11_divides_9 (by decide +kernel) ?_
  refine W.lcmp hx hb dX11_divides_10 ?_
  refine lv_if_ne (tgt := 18) hx hb dX11_divides_11 (of_decide_eq_true rfl) (fun c_3 => ?_) (fun c_3 => ?_)
  · have hfn := (if_neg c_3).symm.trans hfn
    refine lv_iconst (v := 0) hx hb dX11_divides_18 zci_0 ?_
    have ho := Option.some.inj hfn
    subst ho
    exact zrz hx hb hr rfl hK hP hD hS hQ ⟨rfl, zB0⟩ hlocks dX11_divides_19
  have hfn := (if_pos c_3).symm.trans hfn
  refine lv_iconst (v := 1) hx hb dX11_divides_14 zci_1 ?_
  refine lv_goto (tgt := 19) hx hb dX11_divides_15 (of_decide_eq_true rfl) ?_
  have ho := Option.some.inj hfn
  subst ho
  exact zrz hx hb hr rfl hK hP hD hS hQ ⟨rfl, zB1⟩ hlocks dX11_divides_19
theorem zn_X7_errorBehindCast_X9 : ∀ w ∈ wsX90, w ∈ wsX7_errorBehindCast := fun _ h => List.mem_cons_of_mem _ (List.mem_append_left _ (List.mem_append_left _ (List.mem_append_left _ (List.mem_append_right _ h))))
theorem zw_X7_errorBehindCast_97 : Cond.fieldLink RX7 22 "ShortEnough$Task" "numbers" "LShortEnough$Numbers;" ∈ wsX7_errorBehindCast := List.mem_of_getElem? (i := 1) (by decide +kernel)
theorem zn_X7_errorBehindCast_X7 : ∀ w ∈ wsX70, w ∈ wsX7_errorBehindCast := fun _ h => List.mem_cons_of_mem _ (List.mem_append_left _ (List.mem_append_left _ (List.mem_append_right _ h)))
theorem zw_X7_errorBehindCast_99 : Cond.fieldLink RX7 9 "ShortEnough$Reckoning" "errors" "[J" ∈ wsX7_errorBehindCast := List.mem_of_getElem? (i := 2) (by decide +kernel)
theorem zw_X7_errorBehindCast_100 : Cond.initialized RX11 ∈ wsX7_errorBehindCast := List.mem_of_getElem? (i := 31) (by decide +kernel)
theorem zw_X7_errorBehindCast_101 : Cond.static yX11_divides ∈ wsX7_errorBehindCast := List.mem_of_getElem? (i := 30) (by decide +kernel)
set_option maxHeartbeats 4000000 in
set_option maxRecDepth 100000 in
theorem zf_X7_errorBehindCast (l : Launch) (dC : Nat → ClassId) (dI : Nat → Nat → Nat) (h0 : Nat) (h1 : Nat) (h2 : Nat) (p3 : Int32) (p4 : Int32) (r0_0 : Nat) (v0_1 : Int32) (v0_2 : Int32) (v1_0 : Int32) (r1_1 : Nat) (r1_2 : Nat) (r1_3 : Nat) (r1_4 : Nat) (v1_5 : Int32) (r1_6 : Nat) (r1_7 : Nat) (r1_8 : Nat) (v2_0 : Int32) (v2_1 : Int32) (r2_2 : Nat) (r2_3 : Nat) (r2_4 : Nat) (r2_5 : Nat) (r2_6 : Nat) (r2_7 : Nat) (r2_8 : Nat) (r2_9 : Nat) (v3_0 : Int32) (v3_1 : Int32) (v3_2 : Int32) (r3_3 : Nat) (r3_4 : Nat) (r3_5 : Nat) (k4 : Nat) (f4 : Nat → Int32) (k5 : Nat) (f5 : Nat → Int32) (k6 : Nat) (f6 : Nat → Int32) (k7 : Nat) (f7 : Nat → Int32) (k8 : Nat) (f8 : Nat → Int64) (k9 : Nat) (f9 : Nat → Int32) (o : Int64) (hfn : fn_X7_errorBehindCast p3 p4 v1_0 v2_0 f4 f5 f6 f7 f8 f9 = some o) (sz : Nat) : zNl [(RX7, 90, yX11_divides, RX11)] l yX7_errorBehindCast wsX7_errorBehindCast ({ frames := 1, cells := 0, slots := 0, locals := 23 }) (dC, dI) vwCl [.ref h0, .ref h1, .ref h2, .int p3, .int p4] [zV7 h0 r0_0 v0_1 v0_2, zV9 h1 v1_0 r1_1 r1_2 r1_3 r1_4 v1_5 r1_6 r1_7 r1_8, zV4 r1_6 v2_0 v2_1 r2_2 r2_3 r2_4 r2_5 r2_6 r2_7 r2_8 r2_9, zV2 r1_7 v3_0 v3_1 v3_2 r3_3 r3_4 r3_5, zVi r3_3 k4 14 f4, zVi h2 k5 14 f5, zVi r1_2 k6 4 f6, zVi r2_8 k7 28 f7, zVl r0_0 k8 14 f8, zVi r2_9 k9 28 f9] [(k4, .int), (k5, .int), (k6, .int), (k7, .int), (k8, .long), (k9, .int)] (fun r _ => r = o) [zV7 h0 r0_0 v0_1 v0_2, zV9 h1 v1_0 r1_1 r1_2 r1_3 r1_4 v1_5 r1_6 r1_7 r1_8, zV4 r1_6 v2_0 v2_1 r2_2 r2_3 r2_4 r2_5 r2_6 r2_7 r2_8 r2_9, zV2 r1_7 v3_0 v3_1 v3_2 r3_3 r3_4 r3_5, zVi r3_3 k4 14 f4, zVi h2 k5 14 f5, zVi r1_2 k6 4 f6, zVi r2_8 k7 28 f7, zVl r0_0 k8 14 f8, zVi r2_9 k9 28 f9] [(k4, .int), (k5, .int), (k6, .int), (k7, .int), (k8, .long), (k9, .int)] sz := by
  refine zgoNl (cc := cX7_errorBehindCast) (maxL := 10) (ret := (some .long)) (C0 := RX7) (lv0 := [(0, .ref h0), (1, .ref h1), (2, .ref h2), (3, .int p3), (4, .int p4)]) zpl_X7 rfl rfl rfl (Nat.le_of_ble_eq_true rfl) ?_
  intro p e s m below meth c A ls Q hN hx hb hr hts hown hlocks hml hP hK hD hA hS hl hQ
  have hn0 : va_Nw (.methodLinkNest RX7 90 yX11_divides RX11) s := hN.1
  unfold fn_X7_errorBehindCast at hfn
  refine lv_aload_n hx hb dX7_errorBehindCast_0 rfl (lv_at hl 1 rfl) ?_
  refine lv_aload_n hx hb dX7_errorBehindCast_1 rfl (lv_at hl 1 rfl) ?_
  refine lv_aload_n hx hb dX7_errorBehindCast_2 rfl (lv_at hl 2 rfl) ?_
  refine lv_iload_n hx hb dX7_errorBehindCast_3 rfl (lv_at hl 3 rfl) ?_
  obtain ⟨o_1, hqo_1, hfn⟩ := zb_s hfn
  refine zcVi (ci := 9) (rest := [.ref h1]) (pc' := 7) (ws' := [zV7 h0 r0_0 v0_1 v0_2, zV9 h1 v1_0 r1_1 r1_2 r1_3 r1_4 v1_5 r1_6 r1_7 r1_8, zV4 r1_6 v2_0 v2_1 r2_2 r2_3 r2_4 r2_5 r2_6 r2_7 r2_8 r2_9, zV2 r1_7 v3_0 v3_1 v3_2 r3_3 r3_4 r3_5, zVi r3_3 k4 14 f4, zVi h2 k5 14 f5, zVi r1_2 k6 4 f6, zVi r2_8 k7 28 f7, zVl r0_0 k8 14 f8, zVi r2_9 k9 28 f9]) hP hK hD hS hA ⟨hx, hb, hml, hown, hts⟩ (zf_X9_formatOf l dC dI h1 h2 p3 v1_0 r1_1 r1_2 r1_3 r1_4 v1_5 r1_6 r1_7 r1_8 v2_0 v2_1 r2_2 r2_3 r2_4 r2_5 r2_6 r2_7 r2_8 r2_9 v3_0 v3_1 v3_2 r3_3 r3_4 r3_5 k4 f4 k5 f5 o_1 hqo_1 s.heap.size) (cwV 2 hts gX7_errorBehindCast_X9_formatOf rfl rfl rfl zhd_X9_formatOf ⟨Nat.le_of_ble_eq_true rfl, Nat.le_of_ble_eq_true rfl⟩) [1, 2, 3, 4, 5] rfl (of_decide_eq_true rfl) [0, 1] rfl rfl rfl rfl hl.1 rfl (Nat.le_of_ble_eq_true rfl) dX7_errorBehindCast_4 ⟨Nat.le_of_ble_eq_true rfl, Nat.le_of_ble_eq_true rfl⟩ [none, some 0, some 1, some 2, some 3, some 4] (of_decide_eq_true rfl) (of_decide_eq_true rfl) rfl rfl rfl (fun H locs hP hD hS => ?_)
  obtain ⟨o_5, hqo_5, hfn⟩ := zb_s hfn
  refine zcVi (ci := 9) (rest := []) (pc' := 10) (ws' := [zV7 h0 r0_0 v0_1 v0_2, zV9 h1 v1_0 r1_1 r1_2 r1_3 r1_4 v1_5 r1_6 r1_7 r1_8, zV4 r1_6 v2_0 v2_1 r2_2 r2_3 r2_4 r2_5 r2_6 r2_7 r2_8 r2_9, zV2 r1_7 v3_0 v3_1 v3_2 r3_3 r3_4 r3_5, zVi r3_3 k4 14 f4, zVi h2 k5 14 f5, zVi r1_2 k6 4 f6, zVi r2_8 k7 28 f7, zVl r0_0 k8 14 f8, zVi r2_9 k9 28 f9]) hP hK hD hS hA ⟨hx, hb, hml, hown, hts⟩ (zf_X9_stepOf l dC dI h1 o_1 v1_0 r1_1 r1_2 r1_3 r1_4 v1_5 r1_6 r1_7 r1_8 k6 f6 o_5 hqo_5 H.size) (cwV 1 hts gX7_errorBehindCast_X9_stepOf rfl rfl rfl zhd_X9_stepOf ⟨Nat.le_of_ble_eq_true rfl, Nat.le_of_ble_eq_true rfl⟩) [1, 6] rfl (of_decide_eq_true rfl) [2] rfl rfl rfl rfl hl.1 rfl (Nat.le_of_ble_eq_true rfl) dX7_errorBehindCast_7 ⟨Nat.le_of_ble_eq_true rfl, Nat.le_of_ble_eq_true rfl⟩ [none, some 0, none, none, none, none, some 1] (of_decide_eq_true rfl) (of_decide_eq_true rfl) rfl rfl rfl (fun H locs hP hD hS => ?_)
  refine lv_istore (lv' := [(5, .int o_5), (0, .ref h0), (1, .ref h1), (2, .ref h2), (3, .int p3), (4, .int p4)]) hx hb dX7_errorBehindCast_10 hl (of_decide_eq_true rfl) rfl (fun ls hl => ?_)
  refine lv_iload hx hb dX7_errorBehindCast_12 (lv_at hl 0 rfl) ?_
  refine lv_iconst (v := 2) hx hb dX7_errorBehindCast_14 zci_2 ?_
  refine lv_idiv hx hb dX7_errorBehindCast_15 (by decide +kernel) ?_
  refine lv_i2l (v := (o_5 / 2).toInt64) hx hb dX7_errorBehindCast_16 rfl ?_
  refine lv_lstore (lv' := [(6, .long (o_5 / 2).toInt64), (5, .int o_5), (0, .ref h0), (1, .ref h1), (2, .ref h2), (3, .int p3), (4, .int p4)]) hx hb dX7_errorBehindCast_17 hl (of_decide_eq_true rfl) rfl (fun ls hl => ?_)
  refine lv_aload_n hx hb dX7_errorBehindCast_19 rfl (lv_at hl 3 rfl) ?_
  refine va_get (D := (dC, dI)) (ci := 9) (v := .ref r1_6) (C := RX9) (T := TX9) (N := 9) hx hb hts zn_X7_errorBehindCast_X9 hown hK hP 1 rfl rfl 6 (of_decide_eq_true rfl) (hts (.fieldLink RX7 22 "ShortEnough$Task" "numbers" "LShortEnough$Numbers;") zw_X7_errorBehindCast_97) (fun _ h9 => h9) rfl dX7_errorBehindCast_20 ?_
  refine lv_iload_n hx hb dX7_errorBehindCast_23 rfl (lv_at hl 5 rfl) ?_
  refine lv_iload hx hb dX7_errorBehindCast_24 (lv_at hl 6 rfl) ?_
  obtain ⟨o_9, hqo_9, hfn⟩ := zb_s hfn
  refine zcVi (ci := 4) (rest := []) (pc' := 29) (ws' := [zV7 h0 r0_0 v0_1 v0_2, zV9 h1 v1_0 r1_1 r1_2 r1_3 r1_4 v1_5 r1_6 r1_7 r1_8, zV4 r1_6 v2_0 v2_1 r2_2 r2_3 r2_4 r2_5 r2_6 r2_7 r2_8 r2_9, zV2 r1_7 v3_0 v3_1 v3_2 r3_3 r3_4 r3_5, zVi r3_3 k4 14 f4, zVi h2 k5 14 f5, zVi r1_2 k6 4 f6, zVi r2_8 k7 28 f7, zVl r0_0 k8 14 f8, zVi r2_9 k9 28 f9]) hP hK hD hS hA ⟨hx, hb, hml, hown, hts⟩ (zf_X4_madeOf l dC dI r1_6 p3 p4 v2_0 v2_1 r2_2 r2_3 r2_4 r2_5 r2_6 r2_7 r2_8 r2_9 k7 f7 o_9 hqo_9 H.size) (cwV 2 hts gX7_errorBehindCast_X4_madeOf rfl rfl rfl zhd_X4_madeOf ⟨Nat.le_of_ble_eq_true rfl, Nat.le_of_ble_eq_true rfl⟩) [2, 7] rfl (of_decide_eq_true rfl) [3] rfl rfl rfl rfl hl.1 rfl (Nat.le_of_ble_eq_true rfl) dX7_errorBehindCast_26 ⟨Nat.le_of_ble_eq_true rfl, Nat.le_of_ble_eq_true rfl⟩ [none, none, some 0, none, none, none, none, some 1] (of_decide_eq_true rfl) (of_decide_eq_true rfl) rfl rfl rfl (fun H locs hP hD hS => ?_)
  refine lv_istore (lv' := [(8, .int o_9), (6, .long (o_5 / 2).toInt64), (5, .int o_5), (0, .ref h0), (1, .ref h1), (2, .ref h2), (3, .int p3), (4, .int p4)]) hx hb dX7_errorBehindCast_29 hl (of_decide_eq_true rfl) rfl (fun ls hl => ?_)
  refine lv_iload hx hb dX7_errorBehindCast_31 (lv_at hl 0 rfl) ?_
  obtain ⟨j_13, ej_13, hfn⟩ := zj_g hfn
  have jp_13 : ∀ (s_13 : Unit) (H : Heap) (locs : List Loc) (ls : Array Slot), j_13 s_13 = some o → va_P (dC, dI) vwCl [zV7 h0 r0_0 v0_1 v0_2, zV9 h1 v1_0 r1_1 r1_2 r1_3 r1_4 v1_5 r1_6 r1_7 r1_8, zV4 r1_6 v2_0 v2_1 r2_2 r2_3 r2_4 r2_5 r2_6 r2_7 r2_8 r2_9, zV2 r1_7 v3_0 v3_1 v3_2 r3_3 r3_4 r3_5, zVi r3_3 k4 14 f4, zVi h2 k5 14 f5, zVi r1_2 k6 4 f6, zVi r2_8 k7 28 f7, zVl r0_0 k8 14 f8, zVi r2_9 k9 28 f9] H → va_D A [zV7 h0 r0_0 v0_1 v0_2, zV9 h1 v1_0 r1_1 r1_2 r1_3 r1_4 v1_5 r1_6 r1_7 r1_8, zV4 r1_6 v2_0 v2_1 r2_2 r2_3 r2_4 r2_5 r2_6 r2_7 r2_8 r2_9, zV2 r1_7 v3_0 v3_1 v3_2 r3_3 r3_4 r3_5, zVi r3_3 k4 14 f4, zVi h2 k5 14 f5, zVi r1_2 k6 4 f6, zVi r2_8 k7 28 f7, zVl r0_0 k8 14 f8, zVi r2_9 k9 28 f9] → va_S A s.heap H locs → lv_has ls 10 [(6, .long (o_5 / 2).toInt64), (5, .int o_5), (1, .ref h1), (3, .int p3), (4, .int p4)] → W p l e (headSpec wsX7_errorBehindCast ({ frames := 1, cells := 0, slots := 0, locals := 23 })).room s m ([.ref h0, .ref h1, .ref h2, .int p3, .int p4] : List Value).toArray below meth c H locs 0 0 Q (F0 m 42 ls []) := by
    intro s_13 H locs ls hfn hP hD hS hl
    have hfn := zj_s ej_13 hfn
    refine lv_iload hx hb dX7_errorBehindCast_42 (lv_at hl 1 rfl) ?_
    refine lv_i2l (v := o_5.toInt64) hx hb dX7_errorBehindCast_44 rfl ?_
    refine lv_aload_n hx hb dX7_errorBehindCast_45 rfl (lv_at hl 2 rfl) ?_
    refine va_get (D := (dC, dI)) (ci := 9) (v := .ref r1_6) (C := RX9) (T := TX9) (N := 9) hx hb hts zn_X7_errorBehindCast_X9 hown hK hP 1 rfl rfl 6 (of_decide_eq_true rfl) (hts (.fieldLink RX7 22 "ShortEnough$Task" "numbers" "LShortEnough$Numbers;") zw_X7_errorBehindCast_97) (fun _ h9 => h9) rfl dX7_errorBehindCast_46 ?_
    refine lv_iload_n hx hb dX7_errorBehindCast_49 rfl (lv_at hl 3 rfl) ?_
    refine lv_iload hx hb dX7_errorBehindCast_50 (lv_at hl 4 rfl) ?_
    obtain ⟨o_14, hqo_14, hfn⟩ := zb_s hfn
    refine zcVl (ci := 4) (rest := [.long o_5.toInt64]) (pc' := 55) (ws' := [zV7 h0 r0_0 v0_1 v0_2, zV9 h1 v1_0 r1_1 r1_2 r1_3 r1_4 v1_5 r1_6 r1_7 r1_8, zV4 r1_6 v2_0 v2_1 r2_2 r2_3 r2_4 r2_5 r2_6 r2_7 r2_8 r2_9, zV2 r1_7 v3_0 v3_1 v3_2 r3_3 r3_4 r3_5, zVi r3_3 k4 14 f4, zVi h2 k5 14 f5, zVi r1_2 k6 4 f6, zVi r2_8 k7 28 f7, zVl r0_0 k8 14 f8, zVi r2_9 k9 28 f9]) hP hK hD hS hA ⟨hx, hb, hml, hown, hts⟩ (zf_X4_amountOf l dC dI r1_6 p3 p4 v2_0 v2_1 r2_2 r2_3 r2_4 r2_5 r2_6 r2_7 r2_8 r2_9 k9 f9 o_14 hqo_14 H.size) (cwV 2 hts gX7_errorBehindCast_X4_amountOf rfl rfl rfl zhd_X4_amountOf ⟨Nat.le_of_ble_eq_true rfl, Nat.le_of_ble_eq_true rfl⟩) [2, 9] rfl (of_decide_eq_true rfl) [5] rfl rfl rfl rfl hl.1 rfl (Nat.le_of_ble_eq_true rfl) dX7_errorBehindCast_52 ⟨Nat.le_of_ble_eq_true rfl, Nat.le_of_ble_eq_true rfl⟩ [none, none, some 0, none, none, none, none, none, none, some 1] (of_decide_eq_true rfl) (of_decide_eq_true rfl) rfl rfl rfl (fun H locs hP hD hS => ?_)
    obtain ⟨o_18, hqo_18, hfn⟩ := zb_s hfn
    have hC := zC hP [] (wc := []) rfl
    have hPc := hP.sub [] (zfm hC)
    have hDc := hD.sub [] (of_decide_eq_true rfl) hC
    have hKc := hK.sub (tys' := []) [] rfl
    have hFc := va_free hD hS hA [] hC
    refine va_calli (va_runSN (As := [.long o_5.toInt64, .long o_14]) (rest := []) ⟨hx, hb, hml, hown, hts⟩ (zf_X11_divides l dC dI o_5.toInt64 o_14 o_18 hqo_18 H.size) ⟨va_cnB (host := RX11) 2 hts gX7_errorBehindCast_X11_divides_n90 rfl rfl rfl hn0 (hts (.initialized RX11) zw_X7_errorBehindCast_100) (by decide +kernel) ⟨Nat.le_of_ble_eq_true rfl, Nat.le_of_ble_eq_true rfl⟩, (hts (.static yX11_divides) zw_X7_errorBehindCast_101), trivial⟩ ⟨fun a U g mk q => by obtain ⟨q0, q1, qP, qK, qD⟩ := q; exact ⟨q0, q1, qP, va_K.moved (u := U) (U := U.calling g mk a) (Vm.Alike.refl U.vm) qK, qD⟩, fun U hU hW => ⟨rfl, by rw [hU], by rw [hU]; exact hPc, va_K.moved hW.alike hKc, hDc.weaken (fun _ _ _ _ => trivial)⟩⟩ rfl rfl hl.1 rfl (lv_room (Nat.le_of_ble_eq_true rfl)) dX7_errorBehindCast_55 ⟨Nat.le_of_ble_eq_true rfl, Nat.le_of_ble_eq_true rfl⟩) hS (fun q _ h => hFc q h) hFc (fun r_19 u_20 t H1 locs ht hvm hw_21 hB hz1 hk1 hS => ?_)
    obtain ⟨hP1, hK1, hD1⟩ := hB
    rw [ht] at hP1
    have hK1 := va_K.moved hvm.symm hK1
    obtain ⟨hP, hD⟩ := zjn (ws' := [zV7 h0 r0_0 v0_1 v0_2, zV9 h1 v1_0 r1_1 r1_2 r1_3 r1_4 v1_5 r1_6 r1_7 r1_8, zV4 r1_6 v2_0 v2_1 r2_2 r2_3 r2_4 r2_5 r2_6 r2_7 r2_8 r2_9, zV2 r1_7 v3_0 v3_1 v3_2 r3_3 r3_4 r3_5, zVi r3_3 k4 14 f4, zVi h2 k5 14 f5, zVi r1_2 k6 4 f6, zVi r2_8 k7 28 f7, zVl r0_0 k8 14 f8, zVi r2_9 k9 28 f9]) hP hD [] hC hk1 hFc hP1 hD1 [] (of_decide_eq_true rfl) (of_decide_eq_true rfl) rfl rfl
    generalize H1 = H at hP hS ⊢
    refine W.eq (g2 := F0 m 58 ls [.int o_18]) (by rw [hw_21.1]) ?_
    have hw_21n := hw_21.2
    refine lv_if_eq (tgt := 65) hx hb dX7_errorBehindCast_58 (of_decide_eq_true rfl) (fun c_22 => ?_) (fun c_22 => ?_)
    · have hfn := (if_pos c_22).symm.trans hfn
      refine lv_lload hx hb dX7_errorBehindCast_65 (lv_at hl 0 rfl) ?_
      have ho := Option.some.inj hfn
      subst ho
      exact zrl hx hb hr hK hP hD hS hQ rfl hlocks dX7_errorBehindCast_67
    have hfn := (if_neg c_22).symm.trans hfn
    refine lv_lconst (v := 0) hx hb dX7_errorBehindCast_61 (by decide +kernel) ?_
    refine lv_goto (tgt := 67) hx hb dX7_errorBehindCast_62 (of_decide_eq_true rfl) ?_
    have ho := Option.some.inj hfn
    subst ho
    exact zrl hx hb hr hK hP hD hS hQ rfl hlocks dX7_errorBehindCast_67
  refine lv_if_lt (tgt := 42) hx hb dX7_errorBehindCast_33 (of_decide_eq_true rfl) (fun c_23 => ?_) (fun c_23 => ?_)
  · have hfn := (if_pos c_23).symm.trans hfn
    exact jp_13 () H locs ls hfn hP hD hS (lv_sub hl [1, 2, 4, 6, 7] rfl)
  have hfn := (if_neg c_23).symm.trans hfn
  refine lv_iload hx hb dX7_errorBehindCast_36 (lv_at hl 0 rfl) ?_
  refine lv_iload_n hx hb dX7_errorBehindCast_38 rfl (lv_at hl 6 rfl) ?_
  refine lv_icmp_lt (tgt := 68) hx hb dX7_errorBehindCast_39 (of_decide_eq_true rfl) (fun c_24 => ?_) (fun c_24 => ?_)
  · have hfn := (if_pos c_24).symm.trans hfn
    refine lv_aload_n hx hb dX7_errorBehindCast_68 rfl (lv_at hl 4 rfl) ?_
    refine lv_aload_n hx hb dX7_errorBehindCast_69 rfl (lv_at hl 4 rfl) ?_
    refine lv_aload_n hx hb dX7_errorBehindCast_70 rfl (lv_at hl 5 rfl) ?_
    refine lv_iload hx hb dX7_errorBehindCast_71 (lv_at hl 0 rfl) ?_
    obtain ⟨o_25, hqo_25, hfn⟩ := zb_s hfn
    refine zcVi (ci := 9) (rest := [.ref h1]) (pc' := 76) (ws' := [zV7 h0 r0_0 v0_1 v0_2, zV9 h1 v1_0 r1_1 r1_2 r1_3 r1_4 v1_5 r1_6 r1_7 r1_8, zV4 r1_6 v2_0 v2_1 r2_2 r2_3 r2_4 r2_5 r2_6 r2_7 r2_8 r2_9, zV2 r1_7 v3_0 v3_1 v3_2 r3_3 r3_4 r3_5, zVi r3_3 k4 14 f4, zVi h2 k5 14 f5, zVi r1_2 k6 4 f6, zVi r2_8 k7 28 f7, zVl r0_0 k8 14 f8, zVi r2_9 k9 28 f9]) hP hK hD hS hA ⟨hx, hb, hml, hown, hts⟩ (zf_X9_formatOf l dC dI h1 h2 o_9 v1_0 r1_1 r1_2 r1_3 r1_4 v1_5 r1_6 r1_7 r1_8 v2_0 v2_1 r2_2 r2_3 r2_4 r2_5 r2_6 r2_7 r2_8 r2_9 v3_0 v3_1 v3_2 r3_3 r3_4 r3_5 k4 f4 k5 f5 o_25 hqo_25 H.size) (cwV 2 hts gX7_errorBehindCast_X9_formatOf rfl rfl rfl zhd_X9_formatOf ⟨Nat.le_of_ble_eq_true rfl, Nat.le_of_ble_eq_true rfl⟩) [1, 2, 3, 4, 5] rfl (of_decide_eq_true rfl) [0, 1] rfl rfl rfl rfl hl.1 rfl (Nat.le_of_ble_eq_true rfl) dX7_errorBehindCast_73 ⟨Nat.le_of_ble_eq_true rfl, Nat.le_of_ble_eq_true rfl⟩ [none, some 0, some 1, some 2, some 3, some 4] (of_decide_eq_true rfl) (of_decide_eq_true rfl) rfl rfl rfl (fun H locs hP hD hS => ?_)
    obtain ⟨o_29, hqo_29, hfn⟩ := zb_s hfn
    refine zcVi (ci := 9) (rest := []) (pc' := 79) (ws' := [zV7 h0 r0_0 v0_1 v0_2, zV9 h1 v1_0 r1_1 r1_2 r1_3 r1_4 v1_5 r1_6 r1_7 r1_8, zV4 r1_6 v2_0 v2_1 r2_2 r2_3 r2_4 r2_5 r2_6 r2_7 r2_8 r2_9, zV2 r1_7 v3_0 v3_1 v3_2 r3_3 r3_4 r3_5, zVi r3_3 k4 14 f4, zVi h2 k5 14 f5, zVi r1_2 k6 4 f6, zVi r2_8 k7 28 f7, zVl r0_0 k8 14 f8, zVi r2_9 k9 28 f9]) hP hK hD hS hA ⟨hx, hb, hml, hown, hts⟩ (zf_X9_stepOf l dC dI h1 o_25 v1_0 r1_1 r1_2 r1_3 r1_4 v1_5 r1_6 r1_7 r1_8 k6 f6 o_29 hqo_29 H.size) (cwV 1 hts gX7_errorBehindCast_X9_stepOf rfl rfl rfl zhd_X9_stepOf ⟨Nat.le_of_ble_eq_true rfl, Nat.le_of_ble_eq_true rfl⟩) [1, 6] rfl (of_decide_eq_true rfl) [2] rfl rfl rfl rfl hl.1 rfl (Nat.le_of_ble_eq_true rfl) dX7_errorBehindCast_76 ⟨Nat.le_of_ble_eq_true rfl, Nat.le_of_ble_eq_true rfl⟩ [none, some 0, none, none, none, none, some 1] (of_decide_eq_true rfl) (of_decide_eq_true rfl) rfl rfl rfl (fun H locs hP hD hS => ?_)
    refine lv_istore (lv' := [(9, .int o_29), (8, .int o_9), (6, .long (o_5 / 2).toInt64), (5, .int o_5), (0, .ref h0), (1, .ref h1), (2, .ref h2), (3, .int p3), (4, .int p4)]) hx hb dX7_errorBehindCast_79 hl (of_decide_eq_true rfl) rfl (fun ls hl => ?_)
    refine lv_aload_n hx hb dX7_errorBehindCast_81 rfl (lv_at hl 4 rfl) ?_
    refine va_get (D := (dC, dI)) (ci := 7) (v := .ref r0_0) (C := RX7) (T := TX7) (N := 3) hx hb hts zn_X7_errorBehindCast_X7 hown hK hP 0 rfl rfl 0 (of_decide_eq_true rfl) (hts (.fieldLink RX7 9 "ShortEnough$Reckoning" "errors" "[J") zw_X7_errorBehindCast_99) (fun _ h9 => h9) rfl dX7_errorBehindCast_82 ?_
    refine lv_iload hx hb dX7_errorBehindCast_85 (lv_at hl 1 rfl) ?_
    obtain ⟨h_33, hfn⟩ := zg_s hfn
    refine va_lald hx hb hK hP 8 4 rfl rfl h_33 dX7_errorBehindCast_87 ?_
    refine lv_iload hx hb dX7_errorBehindCast_88 (lv_at hl 3 rfl) ?_
    refine lv_i2l (v := o_5.toInt64) hx hb dX7_errorBehindCast_90 rfl ?_
    refine lv_iload hx hb dX7_errorBehindCast_91 (lv_at hl 0 rfl) ?_
    refine lv_i2l (v := o_29.toInt64) hx hb dX7_errorBehindCast_93 rfl ?_
    obtain ⟨o_34, hqo_34, hfn⟩ := zb_s hfn
    have hC := zC hP [] (wc := []) rfl
    have hPc := hP.sub [] (zfm hC)
    have hDc := hD.sub [] (of_decide_eq_true rfl) hC
    have hKc := hK.sub (tys' := []) [] rfl
    have hFc := va_free hD hS hA [] hC
    refine va_calli (va_runSN (As := [.long o_5.toInt64, .long o_29.toInt64]) (rest := [.long (f8 o_9.toNatClampNeg)]) ⟨hx, hb, hml, hown, hts⟩ (zf_X11_divides l dC dI o_5.toInt64 o_29.toInt64 o_34 hqo_34 H.size) ⟨va_cnB (host := RX11) 2 hts gX7_errorBehindCast_X11_divides_n90 rfl rfl rfl hn0 (hts (.initialized RX11) zw_X7_errorBehindCast_100) (by decide +kernel) ⟨Nat.le_of_ble_eq_true rfl, Nat.le_of_ble_eq_true rfl⟩, (hts (.static yX11_divides) zw_X7_errorBehindCast_101), trivial⟩ ⟨fun a U g mk q => by obtain ⟨q0, q1, qP, qK, qD⟩ := q; exact ⟨q0, q1, qP, va_K.moved (u := U) (U := U.calling g mk a) (Vm.Alike.refl U.vm) qK, qD⟩, fun U hU hW => ⟨rfl, by rw [hU], by rw [hU]; exact hPc, va_K.moved hW.alike hKc, hDc.weaken (fun _ _ _ _ => trivial)⟩⟩ rfl rfl hl.1 rfl (lv_room (Nat.le_of_ble_eq_true rfl)) dX7_errorBehindCast_94 ⟨Nat.le_of_ble_eq_true rfl, Nat.le_of_ble_eq_true rfl⟩) hS (fun q _ h => hFc q h) hFc (fun r_35 u_36 t H1 locs ht hvm hw_37 hB hz1 hk1 hS => ?_)
    obtain ⟨hP1, hK1, hD1⟩ := hB
    rw [ht] at hP1
    have hK1 := va_K.moved hvm.symm hK1
    obtain ⟨hP, hD⟩ := zjn (ws' := [zV7 h0 r0_0 v0_1 v0_2, zV9 h1 v1_0 r1_1 r1_2 r1_3 r1_4 v1_5 r1_6 r1_7 r1_8, zV4 r1_6 v2_0 v2_1 r2_2 r2_3 r2_4 r2_5 r2_6 r2_7 r2_8 r2_9, zV2 r1_7 v3_0 v3_1 v3_2 r3_3 r3_4 r3_5, zVi r3_3 k4 14 f4, zVi h2 k5 14 f5, zVi r1_2 k6 4 f6, zVi r2_8 k7 28 f7, zVl r0_0 k8 14 f8, zVi r2_9 k9 28 f9]) hP hD [] hC hk1 hFc hP1 hD1 [] (of_decide_eq_true rfl) (of_decide_eq_true rfl) rfl rfl
    generalize H1 = H at hP hS ⊢
    refine W.eq (g2 := F0 m 97 ls [.int o_34, .long (f8 o_9.toNatClampNeg)]) (by rw [hw_37.1]) ?_
    have hw_37n := hw_37.2
    refine lv_if_eq (tgt := 104) hx hb dX7_errorBehindCast_97 (of_decide_eq_true rfl) (fun c_38 => ?_) (fun c_38 => ?_)
    · have hfn := (if_pos c_38).symm.trans hfn
      refine lv_lload hx hb dX7_errorBehindCast_104 (lv_at hl 2 rfl) ?_
      refine lv_ladd hx hb dX7_errorBehindCast_106 ?_
      have ho := Option.some.inj hfn
      subst ho
      exact zrl hx hb hr hK hP hD hS hQ rfl hlocks dX7_errorBehindCast_107
    have hfn := (if_neg c_38).symm.trans hfn
    refine lv_lconst (v := 0) hx hb dX7_errorBehindCast_100 (by decide +kernel) ?_
    refine lv_goto (tgt := 106) hx hb dX7_errorBehindCast_101 (of_decide_eq_true rfl) ?_
    refine lv_ladd hx hb dX7_errorBehindCast_106 ?_
    have ho := Option.some.inj hfn
    subst ho
    exact zrl hx hb hr hK hP hD hS hQ rfl hlocks dX7_errorBehindCast_107
  have hfn := (if_neg c_24).symm.trans hfn
  exact jp_13 () H locs ls hfn hP hD hS (lv_sub hl [1, 2, 4, 6, 7] rfl)
theorem zw_X6_amountOfWhat_106 : Cond.methodLink RX6 66 Lib.MathLoose.abs_long.x ∈ wsX6_amountOfWhat := List.mem_of_getElem? (i := 1) (by decide +kernel)
theorem zw_X6_amountOfWhat_107 : Cond.static Lib.MathLoose.abs_long.x ∈ wsX6_amountOfWhat := List.mem_of_getElem? (i := 2) (by decide +kernel)
theorem zw_X6_amountOfWhat_108 : Cond.initialized "java/lang/Math" ∈ wsX6_amountOfWhat := List.mem_of_getElem? (i := 3) (by decide +kernel)
theorem zw_X6_amountOfWhat_109 : Cond.code Lib.MathLoose.abs_long.x Lib.MathLoose.abs_long.code 2 (some .long) ∈ wsX6_amountOfWhat := List.mem_of_getElem? (i := 4) (by decide +kernel)
theorem zn_X6_amountOfWhat_X6 : ∀ w ∈ wsX60, w ∈ wsX6_amountOfWhat := fun _ h => List.mem_cons_of_mem _ (List.mem_append_left _ (List.mem_append_right _ h))
theorem zw_X6_amountOfWhat_111 : Cond.fieldLink RX6 9 "ShortEnough$Ranges" "low" "[J" ∈ wsX6_amountOfWhat := List.mem_of_getElem? (i := 5) (by decide +kernel)
theorem zw_X6_amountOfWhat_112 : Cond.fieldLink RX6 15 "ShortEnough$Ranges" "high" "[J" ∈ wsX6_amountOfWhat := List.mem_of_getElem? (i := 6) (by decide +kernel)
theorem zw_X6_amountOfWhat_113 : Cond.methodLink RX6 63 Lib.MathLoose.max_long.x ∈ wsX6_amountOfWhat := List.mem_of_getElem? (i := 7) (by decide +kernel)
theorem zw_X6_amountOfWhat_114 : Cond.static Lib.MathLoose.max_long.x ∈ wsX6_amountOfWhat := List.mem_of_getElem? (i := 8) (by decide +kernel)
theorem zw_X6_amountOfWhat_115 : Cond.code Lib.MathLoose.max_long.x Lib.MathLoose.max_long.code 4 (some .long) ∈ wsX6_amountOfWhat := List.mem_of_getElem? (i := 9) (by decide +kernel)
set_option maxHeartbeats 4000000 in
set_option maxRecDepth 100000 in
theorem zf_X6_amountOfWhat (l : Launch) (dC : Nat → ClassId) (dI : Nat → Nat → Nat) (h0 : Nat) (h1 : Nat) (p2 : Int32) (p3 : Int32) (r0_0 : Nat) (r0_1 : Nat) (r0_2 : Nat) (v1_0 : Int32) (v1_1 : Int32) (r1_2 : Nat) (r1_3 : Nat) (r1_4 : Nat) (r1_5 : Nat) (r1_6 : Nat) (r1_7 : Nat) (r1_8 : Nat) (r1_9 : Nat) (k2 : Nat) (f2 : Nat → Int32) (k3 : Nat) (f3 : Nat → Int32) (k4 : Nat) (f4 : Nat → Int64) (k5 : Nat) (f5 : Nat → Int64) (o : Int64) (hfn : fn_X6_amountOfWhat p2 p3 v1_0 f2 f3 f4 f5 = some o) (sz : Nat) : zMl l yX6_amountOfWhat wsX6_amountOfWhat ({ frames := 1, cells := 0, slots := 0, locals := 40 }) (dC, dI) vwCl [.ref h0, .ref h1, .int p2, .int p3] [zV6 h0 r0_0 r0_1 r0_2, zV4 h1 v1_0 v1_1 r1_2 r1_3 r1_4 r1_5 r1_6 r1_7 r1_8 r1_9, zVi r1_8 k2 28 f2, zVi r1_9 k3 28 f3, zVl r0_0 k4 14 f4, zVl r0_1 k5 14 f5] [(k2, .int), (k3, .int), (k4, .long), (k5, .long)] (fun r _ => r = o) [zV6 h0 r0_0 r0_1 r0_2, zV4 h1 v1_0 v1_1 r1_2 r1_3 r1_4 r1_5 r1_6 r1_7 r1_8 r1_9, zVi r1_8 k2 28 f2, zVi r1_9 k3 28 f3, zVl r0_0 k4 14 f4, zVl r0_1 k5 14 f5] [(k2, .int), (k3, .int), (k4, .long), (k5, .long)] sz := by
  refine zgol (cc := cX6_amountOfWhat) (maxL := 5) (ret := (some .long)) (C0 := RX6) (lv0 := [(0, .ref h0), (1, .ref h1), (2, .int p2), (3, .int p3)]) zpl_X6 rfl rfl rfl (Nat.le_of_ble_eq_true rfl) ?_
  intro p e s m below meth c A ls Q hx hb hr hts hown hlocks hml hP hK hD hA hS hl hQ
  unfold fn_X6_amountOfWhat at hfn
  refine lv_aload_n hx hb dX6_amountOfWhat_0 rfl (lv_at hl 1 rfl) ?_
  refine lv_iload_n hx hb dX6_amountOfWhat_1 rfl (lv_at hl 2 rfl) ?_
  refine lv_iload_n hx hb dX6_amountOfWhat_2 rfl (lv_at hl 3 rfl) ?_
  obtain ⟨o_1, hqo_1, hfn⟩ := zb_s hfn
  refine zcVi (ci := 4) (rest := []) (pc' := 6) (ws' := [zV6 h0 r0_0 r0_1 r0_2, zV4 h1 v1_0 v1_1 r1_2 r1_3 r1_4 r1_5 r1_6 r1_7 r1_8 r1_9, zVi r1_8 k2 28 f2, zVi r1_9 k3 28 f3, zVl r0_0 k4 14 f4, zVl r0_1 k5 14 f5]) hP hK hD hS hA ⟨hx, hb, hml, hown, hts⟩ (zf_X4_madeOf l dC dI h1 p2 p3 v1_0 v1_1 r1_2 r1_3 r1_4 r1_5 r1_6 r1_7 r1_8 r1_9 k2 f2 o_1 hqo_1 s.heap.size) (cwV 2 hts gX6_amountOfWhat_X4_madeOf rfl rfl rfl zhd_X4_madeOf ⟨Nat.le_of_ble_eq_true rfl, Nat.le_of_ble_eq_true rfl⟩) [1, 2] rfl (of_decide_eq_true rfl) [0] rfl rfl rfl rfl hl.1 rfl (Nat.le_of_ble_eq_true rfl) dX6_amountOfWhat_3 ⟨Nat.le_of_ble_eq_true rfl, Nat.le_of_ble_eq_true rfl⟩ [none, some 0, some 1] (of_decide_eq_true rfl) (of_decide_eq_true rfl) rfl rfl rfl (fun H locs hP hD hS => ?_)
  refine lv_istore (lv' := [(4, .int o_1), (0, .ref h0), (1, .ref h1), (2, .int p2), (3, .int p3)]) hx hb dX6_amountOfWhat_6 hl (of_decide_eq_true rfl) rfl (fun ls hl => ?_)
  refine lv_iload hx hb dX6_amountOfWhat_8 (lv_at hl 0 rfl) ?_
  refine lv_if_lt (tgt := 19) hx hb dX6_amountOfWhat_10 (of_decide_eq_true rfl) (fun c_5 => ?_) (fun c_5 => ?_)
  · have hfn := (if_pos c_5).symm.trans hfn
    refine lv_aload_n hx hb dX6_amountOfWhat_19 rfl (lv_at hl 2 rfl) ?_
    refine lv_iload_n hx hb dX6_amountOfWhat_20 rfl (lv_at hl 3 rfl) ?_
    refine lv_iload_n hx hb dX6_amountOfWhat_21 rfl (lv_at hl 4 rfl) ?_
    obtain ⟨o_6, hqo_6, hfn⟩ := zb_s hfn
    refine zcVl (ci := 4) (rest := []) (pc' := 25) (ws' := [zV6 h0 r0_0 r0_1 r0_2, zV4 h1 v1_0 v1_1 r1_2 r1_3 r1_4 r1_5 r1_6 r1_7 r1_8 r1_9, zVi r1_8 k2 28 f2, zVi r1_9 k3 28 f3, zVl r0_0 k4 14 f4, zVl r0_1 k5 14 f5]) hP hK hD hS hA ⟨hx, hb, hml, hown, hts⟩ (zf_X4_amountOf l dC dI h1 p2 p3 v1_0 v1_1 r1_2 r1_3 r1_4 r1_5 r1_6 r1_7 r1_8 r1_9 k3 f3 o_6 hqo_6 H.size) (cwV 2 hts gX6_amountOfWhat_X4_amountOf rfl rfl rfl zhd_X4_amountOf ⟨Nat.le_of_ble_eq_true rfl, Nat.le_of_ble_eq_true rfl⟩) [1, 3] rfl (of_decide_eq_true rfl) [1] rfl rfl rfl rfl hl.1 rfl (Nat.le_of_ble_eq_true rfl) dX6_amountOfWhat_22 ⟨Nat.le_of_ble_eq_true rfl, Nat.le_of_ble_eq_true rfl⟩ [none, some 0, none, some 1] (of_decide_eq_true rfl) (of_decide_eq_true rfl) rfl rfl rfl (fun H locs hP hD hS => ?_)
    refine va_mabs_long hx hb (by rw [hml]; exact hl.1.symm) hown (hts (.methodLink RX6 66 Lib.MathLoose.abs_long.x) zw_X6_amountOfWhat_106) (hts (.static Lib.MathLoose.abs_long.x) zw_X6_amountOfWhat_107) (hts (.initialized "java/lang/Math") zw_X6_amountOfWhat_108) (hts (.code Lib.MathLoose.abs_long.x Lib.MathLoose.abs_long.code 2 (some .long)) zw_X6_amountOfWhat_109) (Nat.le_of_ble_eq_true rfl) (Nat.le_of_ble_eq_true rfl) (Nat.le_of_ble_eq_true rfl) (Nat.le_of_ble_eq_true rfl) dX6_amountOfWhat_25 ?_
    have ho := Option.some.inj hfn
    subst ho
    exact zrl hx hb hr hK hP hD hS hQ rfl hlocks dX6_amountOfWhat_28
  have hfn := (if_neg c_5).symm.trans hfn
  refine lv_iload hx hb dX6_amountOfWhat_13 (lv_at hl 0 rfl) ?_
  refine lv_iload_n hx hb dX6_amountOfWhat_15 rfl (lv_at hl 3 rfl) ?_
  refine lv_icmp_lt (tgt := 29) hx hb dX6_amountOfWhat_16 (of_decide_eq_true rfl) (fun c_10 => ?_) (fun c_10 => ?_)
  · have hfn := (if_pos c_10).symm.trans hfn
    refine lv_aload_n hx hb dX6_amountOfWhat_29 rfl (lv_at hl 1 rfl) ?_
    refine va_get (D := (dC, dI)) (ci := 6) (v := .ref r0_0) (C := RX6) (T := TX6) (N := 3) hx hb hts zn_X6_amountOfWhat_X6 hown hK hP 0 rfl rfl 0 (of_decide_eq_true rfl) (hts (.fieldLink RX6 9 "ShortEnough$Ranges" "low" "[J") zw_X6_amountOfWhat_111) (fun _ h9 => h9) rfl dX6_amountOfWhat_30 ?_
    refine lv_iload hx hb dX6_amountOfWhat_33 (lv_at hl 0 rfl) ?_
    obtain ⟨h_11, hfn⟩ := zg_s hfn
    refine va_lald hx hb hK hP 4 2 rfl rfl h_11 dX6_amountOfWhat_35 ?_
    refine va_mabs_long hx hb (by rw [hml]; exact hl.1.symm) hown (hts (.methodLink RX6 66 Lib.MathLoose.abs_long.x) zw_X6_amountOfWhat_106) (hts (.static Lib.MathLoose.abs_long.x) zw_X6_amountOfWhat_107) (hts (.initialized "java/lang/Math") zw_X6_amountOfWhat_108) (hts (.code Lib.MathLoose.abs_long.x Lib.MathLoose.abs_long.code 2 (some .long)) zw_X6_amountOfWhat_109) (Nat.le_of_ble_eq_true rfl) (Nat.le_of_ble_eq_true rfl) (Nat.le_of_ble_eq_true rfl) (Nat.le_of_ble_eq_true rfl) dX6_amountOfWhat_36 ?_
    refine lv_topl (fun x_12 ex_12 => ?_)
    have hfn := zn_s hfn ex_12
    refine lv_aload_n hx hb dX6_amountOfWhat_39 rfl (lv_at hl 1 rfl) ?_
    refine va_get (D := (dC, dI)) (ci := 6) (v := .ref r0_1) (C := RX6) (T := TX6) (N := 3) hx hb hts zn_X6_amountOfWhat_X6 hown hK hP 0 rfl rfl 1 (of_decide_eq_true rfl) (hts (.fieldLink RX6 15 "ShortEnough$Ranges" "high" "[J") zw_X6_amountOfWhat_112) (fun _ h9 => h9) rfl dX6_amountOfWhat_40 ?_
    refine lv_iload hx hb dX6_amountOfWhat_43 (lv_at hl 0 rfl) ?_
    refine va_lald hx hb hK hP 5 3 rfl rfl h_11 dX6_amountOfWhat_45 ?_
    refine va_mabs_long hx hb (by rw [hml]; exact hl.1.symm) hown (hts (.methodLink RX6 66 Lib.MathLoose.abs_long.x) zw_X6_amountOfWhat_106) (hts (.static Lib.MathLoose.abs_long.x) zw_X6_amountOfWhat_107) (hts (.initialized "java/lang/Math") zw_X6_amountOfWhat_108) (hts (.code Lib.MathLoose.abs_long.x Lib.MathLoose.abs_long.code 2 (some .long)) zw_X6_amountOfWhat_109) (Nat.le_of_ble_eq_true rfl) (Nat.le_of_ble_eq_true rfl) (Nat.le_of_ble_eq_true rfl) (Nat.le_of_ble_eq_true rfl) dX6_amountOfWhat_46 ?_
    refine lv_topl (fun x_13 ex_13 => ?_)
    have hfn := zn_s hfn ex_13
    refine va_mmax_long hx hb (by rw [hml]; exact hl.1.symm) hown (hts (.methodLink RX6 63 Lib.MathLoose.max_long.x) zw_X6_amountOfWhat_113) (hts (.static Lib.MathLoose.max_long.x) zw_X6_amountOfWhat_114) (hts (.initialized "java/lang/Math") zw_X6_amountOfWhat_108) (hts (.code Lib.MathLoose.max_long.x Lib.MathLoose.max_long.code 4 (some .long)) zw_X6_amountOfWhat_115) (Nat.le_of_ble_eq_true rfl) (Nat.le_of_ble_eq_true rfl) (Nat.le_of_ble_eq_true rfl) (Nat.le_of_ble_eq_true rfl) dX6_amountOfWhat_49 ?_
    have ho := Option.some.inj hfn
    subst ho
    exact zrl hx hb hr hK hP hD hS hQ rfl hlocks dX6_amountOfWhat_52
  have hfn := (if_neg c_10).symm.trans hfn
  refine lv_aload_n hx hb dX6_amountOfWhat_19 rfl (lv_at hl 2 rfl) ?_
  refine lv_iload_n hx hb dX6_amountOfWhat_20 rfl (lv_at hl 3 rfl) ?_
  refine lv_iload_n hx hb dX6_amountOfWhat_21 rfl (lv_at hl 4 rfl) ?_
  obtain ⟨o_14, hqo_14, hfn⟩ := zb_s hfn
  refine zcVl (ci := 4) (rest := []) (pc' := 25) (ws' := [zV6 h0 r0_0 r0_1 r0_2, zV4 h1 v1_0 v1_1 r1_2 r1_3 r1_4 r1_5 r1_6 r1_7 r1_8 r1_9, zVi r1_8 k2 28 f2, zVi r1_9 k3 28 f3, zVl r0_0 k4 14 f4, zVl r0_1 k5 14 f5]) hP hK hD hS hA ⟨hx, hb, hml, hown, hts⟩ (zf_X4_amountOf l dC dI h1 p2 p3 v1_0 v1_1 r1_2 r1_3 r1_4 r1_5 r1_6 r1_7 r1_8 r1_9 k3 f3 o_14 hqo_14 H.size) (cwV 2 hts gX6_amountOfWhat_X4_amountOf rfl rfl rfl zhd_X4_amountOf ⟨Nat.le_of_ble_eq_true rfl, Nat.le_of_ble_eq_true rfl⟩) [1, 3] rfl (of_decide_eq_true rfl) [1] rfl rfl rfl rfl hl.1 rfl (Nat.le_of_ble_eq_true rfl) dX6_amountOfWhat_22 ⟨Nat.le_of_ble_eq_true rfl, Nat.le_of_ble_eq_true rfl⟩ [none, some 0, none, some 1] (of_decide_eq_true rfl) (of_decide_eq_true rfl) rfl rfl rfl (fun H locs hP hD hS => ?_)
  refine va_mabs_long hx hb (by rw [hml]; exact hl.1.symm) hown (hts (.methodLink RX6 66 Lib.MathLoose.abs_long.x) zw_X6_amountOfWhat_106) (hts (.static Lib.MathLoose.abs_long.x) zw_X6_amountOfWhat_107) (hts (.initialized "java/lang/Math") zw_X6_amountOfWhat_108) (hts (.code Lib.MathLoose.abs_long.x Lib.MathLoose.abs_long.code 2 (some .long)) zw_X6_amountOfWhat_109) (Nat.le_of_ble_eq_true rfl) (Nat.le_of_ble_eq_true rfl) (Nat.le_of_ble_eq_true rfl) (Nat.le_of_ble_eq_true rfl) dX6_amountOfWhat_25 ?_
  have ho := Option.some.inj hfn
  subst ho
  exact zrl hx hb hr hK hP hD hS hQ rfl hlocks dX6_amountOfWhat_28
theorem zn_X7_errorOf_X9 : ∀ w ∈ wsX90, w ∈ wsX7_errorOf := fun _ h => List.mem_cons_of_mem _ (List.mem_append_left _ (List.mem_append_left _ (List.mem_append_left _ (List.mem_append_left _ (List.mem_append_right _ h)))))
theorem zw_X7_errorOf_93 : Cond.fieldLink RX7 22 "ShortEnough$Task" "numbers" "LShortEnough$Numbers;" ∈ wsX7_errorOf := List.mem_of_getElem? (i := 1) (by decide +kernel)
theorem zn_X7_errorOf_X4 : ∀ w ∈ wsX40, w ∈ wsX7_errorOf := fun _ h => List.mem_cons_of_mem _ (List.mem_append_left _ (List.mem_append_left _ (List.mem_append_left _ (List.mem_append_right _ h))))
theorem zw_X7_errorOf_95 : Cond.fieldLink RX7 62 "ShortEnough$Numbers" "op" "[I" ∈ wsX7_errorOf := List.mem_of_getElem? (i := 2) (by decide +kernel)
theorem zw_X7_errorOf_102 : Cond.methodLink RX7 69 Lib.MathLoose.max_long.x ∈ wsX7_errorOf := List.mem_of_getElem? (i := 3) (by decide +kernel)
theorem zw_X7_errorOf_103 : Cond.static Lib.MathLoose.max_long.x ∈ wsX7_errorOf := List.mem_of_getElem? (i := 4) (by decide +kernel)
theorem zw_X7_errorOf_104 : Cond.initialized "java/lang/Math" ∈ wsX7_errorOf := List.mem_of_getElem? (i := 5) (by decide +kernel)
theorem zw_X7_errorOf_105 : Cond.code Lib.MathLoose.max_long.x Lib.MathLoose.max_long.code 4 (some .long) ∈ wsX7_errorOf := List.mem_of_getElem? (i := 6) (by decide +kernel)
theorem zw_X7_errorOf_116 : Cond.constantLong RX7 79 (999) ∈ wsX7_errorOf := List.mem_of_getElem? (i := 7) (by decide +kernel)
theorem zw_X7_errorOf_117 : Cond.constantLong RX7 81 (1000) ∈ wsX7_errorOf := List.mem_of_getElem? (i := 8) (by decide +kernel)
set_option maxHeartbeats 4000000 in
set_option maxRecDepth 100000 in
theorem zf_X7_errorOf (l : Launch) (dC : Nat → ClassId) (dI : Nat → Nat → Nat) (h0 : Nat) (h1 : Nat) (h2 : Nat) (h3 : Nat) (p4 : Int32) (r0_0 : Nat) (v0_1 : Int32) (v0_2 : Int32) (v1_0 : Int32) (r1_1 : Nat) (r1_2 : Nat) (r1_3 : Nat) (r1_4 : Nat) (v1_5 : Int32) (r1_6 : Nat) (r1_7 : Nat) (r1_8 : Nat) (v2_0 : Int32) (v2_1 : Int32) (r2_2 : Nat) (r2_3 : Nat) (r2_4 : Nat) (r2_5 : Nat) (r2_6 : Nat) (r2_7 : Nat) (r2_8 : Nat) (r2_9 : Nat) (v3_0 : Int32) (v3_1 : Int32) (v3_2 : Int32) (r3_3 : Nat) (r3_4 : Nat) (r3_5 : Nat) (k4 : Nat) (f4 : Nat → Int32) (k5 : Nat) (f5 : Nat → Int32) (k6 : Nat) (f6 : Nat → Int32) (k7 : Nat) (f7 : Nat → Int32) (k8 : Nat) (f8 : Nat → Int32) (k9 : Nat) (f9 : Nat → Int64) (k10 : Nat) (f10 : Nat → Int32) (r11_0 : Nat) (r11_1 : Nat) (r11_2 : Nat) (k12 : Nat) (f12 : Nat → Int64) (k13 : Nat) (f13 : Nat → Int64) (o : Int64) (hfn : fn_X7_errorOf p4 v1_0 v2_0 f4 f5 f6 f7 f8 f9 f10 f12 f13 = some o) (sz : Nat) : zNl [(RX7, 90, yX11_divides, RX11)] l yX7_errorOf wsX7_errorOf ({ frames := 2, cells := 0, slots := 0, locals := 64 }) (dC, dI) vwCl [.ref h0, .ref h1, .ref h2, .ref h3, .int p4] [zV7 h0 r0_0 v0_1 v0_2, zV9 h1 v1_0 r1_1 r1_2 r1_3 r1_4 v1_5 r1_6 r1_7 r1_8, zV4 r1_6 v2_0 v2_1 r2_2 r2_3 r2_4 r2_5 r2_6 r2_7 r2_8 r2_9, zV2 r1_7 v3_0 v3_1 v3_2 r3_3 r3_4 r3_5, zVi r3_3 k4 14 f4, zVi h3 k5 14 f5, zVi r1_2 k6 4 f6, zVi r2_3 k7 14 f7, zVi r2_8 k8 28 f8, zVl r0_0 k9 14 f9, zVi r2_9 k10 28 f10, zV6 h2 r11_0 r11_1 r11_2, zVl r11_0 k12 14 f12, zVl r11_1 k13 14 f13] [(k4, .int), (k5, .int), (k6, .int), (k7, .int), (k8, .int), (k9, .long), (k10, .int), (k12, .long), (k13, .long)] (fun r _ => r = o) [zV7 h0 r0_0 v0_1 v0_2, zV9 h1 v1_0 r1_1 r1_2 r1_3 r1_4 v1_5 r1_6 r1_7 r1_8, zV4 r1_6 v2_0 v2_1 r2_2 r2_3 r2_4 r2_5 r2_6 r2_7 r2_8 r2_9, zV2 r1_7 v3_0 v3_1 v3_2 r3_3 r3_4 r3_5, zVi r3_3 k4 14 f4, zVi h3 k5 14 f5, zVi r1_2 k6 4 f6, zVi r2_3 k7 14 f7, zVi r2_8 k8 28 f8, zVl r0_0 k9 14 f9, zVi r2_9 k10 28 f10, zV6 h2 r11_0 r11_1 r11_2, zVl r11_0 k12 14 f12, zVl r11_1 k13 14 f13] [(k4, .int), (k5, .int), (k6, .int), (k7, .int), (k8, .int), (k9, .long), (k10, .int), (k12, .long), (k13, .long)] sz := by
  refine zgoNl (cc := cX7_errorOf) (maxL := 17) (ret := (some .long)) (C0 := RX7) (lv0 := [(0, .ref h0), (1, .ref h1), (2, .ref h2), (3, .ref h3), (4, .int p4)]) zpl_X7 rfl rfl rfl (Nat.le_of_ble_eq_true rfl) ?_
  intro p e s m below meth c A ls Q hN hx hb hr hts hown hlocks hml hP hK hD hA hS hl hQ
  have hn0 : va_Nw (.methodLinkNest RX7 90 yX11_divides RX11) s := hN.1
  unfold fn_X7_errorOf at hfn
  refine lv_aload_n hx hb dX7_errorOf_0 rfl (lv_at hl 1 rfl) ?_
  refine lv_aload_n hx hb dX7_errorOf_1 rfl (lv_at hl 1 rfl) ?_
  refine lv_aload_n hx hb dX7_errorOf_2 rfl (lv_at hl 3 rfl) ?_
  refine lv_iload hx hb dX7_errorOf_3 (lv_at hl 4 rfl) ?_
  obtain ⟨o_1, hqo_1, hfn⟩ := zb_s hfn
  refine zcVi (ci := 9) (rest := [.ref h1]) (pc' := 8) (ws' := [zV7 h0 r0_0 v0_1 v0_2, zV9 h1 v1_0 r1_1 r1_2 r1_3 r1_4 v1_5 r1_6 r1_7 r1_8, zV4 r1_6 v2_0 v2_1 r2_2 r2_3 r2_4 r2_5 r2_6 r2_7 r2_8 r2_9, zV2 r1_7 v3_0 v3_1 v3_2 r3_3 r3_4 r3_5, zVi r3_3 k4 14 f4, zVi h3 k5 14 f5, zVi r1_2 k6 4 f6, zVi r2_3 k7 14 f7, zVi r2_8 k8 28 f8, zVl r0_0 k9 14 f9, zVi r2_9 k10 28 f10, zV6 h2 r11_0 r11_1 r11_2, zVl r11_0 k12 14 f12, zVl r11_1 k13 14 f13]) hP hK hD hS hA ⟨hx, hb, hml, hown, hts⟩ (zf_X9_formatOf l dC dI h1 h3 p4 v1_0 r1_1 r1_2 r1_3 r1_4 v1_5 r1_6 r1_7 r1_8 v2_0 v2_1 r2_2 r2_3 r2_4 r2_5 r2_6 r2_7 r2_8 r2_9 v3_0 v3_1 v3_2 r3_3 r3_4 r3_5 k4 f4 k5 f5 o_1 hqo_1 s.heap.size) (cwV 2 hts gX7_errorOf_X9_formatOf rfl rfl rfl zhd_X9_formatOf ⟨Nat.le_of_ble_eq_true rfl, Nat.le_of_ble_eq_true rfl⟩) [1, 2, 3, 4, 5] rfl (of_decide_eq_true rfl) [0, 1] rfl rfl rfl rfl hl.1 rfl (Nat.le_of_ble_eq_true rfl) dX7_errorOf_5 ⟨Nat.le_of_ble_eq_true rfl, Nat.le_of_ble_eq_true rfl⟩ [none, some 0, some 1, some 2, some 3, some 4] (of_decide_eq_true rfl) (of_decide_eq_true rfl) rfl rfl rfl (fun H locs hP hD hS => ?_)
  obtain ⟨o_5, hqo_5, hfn⟩ := zb_s hfn
  refine zcVi (ci := 9) (rest := []) (pc' := 11) (ws' := [zV7 h0 r0_0 v0_1 v0_2, zV9 h1 v1_0 r1_1 r1_2 r1_3 r1_4 v1_5 r1_6 r1_7 r1_8, zV4 r1_6 v2_0 v2_1 r2_2 r2_3 r2_4 r2_5 r2_6 r2_7 r2_8 r2_9, zV2 r1_7 v3_0 v3_1 v3_2 r3_3 r3_4 r3_5, zVi r3_3 k4 14 f4, zVi h3 k5 14 f5, zVi r1_2 k6 4 f6, zVi r2_3 k7 14 f7, zVi r2_8 k8 28 f8, zVl r0_0 k9 14 f9, zVi r2_9 k10 28 f10, zV6 h2 r11_0 r11_1 r11_2, zVl r11_0 k12 14 f12, zVl r11_1 k13 14 f13]) hP hK hD hS hA ⟨hx, hb, hml, hown, hts⟩ (zf_X9_stepOf l dC dI h1 o_1 v1_0 r1_1 r1_2 r1_3 r1_4 v1_5 r1_6 r1_7 r1_8 k6 f6 o_5 hqo_5 H.size) (cwV 1 hts gX7_errorOf_X9_stepOf rfl rfl rfl zhd_X9_stepOf ⟨Nat.le_of_ble_eq_true rfl, Nat.le_of_ble_eq_true rfl⟩) [1, 6] rfl (of_decide_eq_true rfl) [2] rfl rfl rfl rfl hl.1 rfl (Nat.le_of_ble_eq_true rfl) dX7_errorOf_8 ⟨Nat.le_of_ble_eq_true rfl, Nat.le_of_ble_eq_true rfl⟩ [none, some 0, none, none, none, none, some 1] (of_decide_eq_true rfl) (of_decide_eq_true rfl) rfl rfl rfl (fun H locs hP hD hS => ?_)
  refine lv_istore (lv' := [(5, .int o_5), (0, .ref h0), (1, .ref h1), (2, .ref h2), (3, .ref h3), (4, .int p4)]) hx hb dX7_errorOf_11 hl (of_decide_eq_true rfl) rfl (fun ls hl => ?_)
  refine lv_iload hx hb dX7_errorOf_13 (lv_at hl 0 rfl) ?_
  refine lv_iconst (v := 2) hx hb dX7_errorOf_15 zci_2 ?_
  refine lv_idiv hx hb dX7_errorOf_16 (by decide +kernel) ?_
  refine lv_i2l (v := (o_5 / 2).toInt64) hx hb dX7_errorOf_17 rfl ?_
  refine lv_lstore (lv' := [(6, .long (o_5 / 2).toInt64), (5, .int o_5), (0, .ref h0), (1, .ref h1), (2, .ref h2), (3, .ref h3), (4, .int p4)]) hx hb dX7_errorOf_18 hl (of_decide_eq_true rfl) rfl (fun ls hl => ?_)
  refine lv_aload_n hx hb dX7_errorOf_20 rfl (lv_at hl 3 rfl) ?_
  refine va_get (D := (dC, dI)) (ci := 9) (v := .ref r1_6) (C := RX9) (T := TX9) (N := 9) hx hb hts zn_X7_errorOf_X9 hown hK hP 1 rfl rfl 6 (of_decide_eq_true rfl) (hts (.fieldLink RX7 22 "ShortEnough$Task" "numbers" "LShortEnough$Numbers;") zw_X7_errorOf_93) (fun _ h9 => h9) rfl dX7_errorOf_21 ?_
  refine va_get (D := (dC, dI)) (ci := 4) (v := .ref r2_3) (C := RX4) (T := TX4) (N := 10) hx hb hts zn_X7_errorOf_X4 hown hK hP 2 rfl rfl 3 (of_decide_eq_true rfl) (hts (.fieldLink RX7 62 "ShortEnough$Numbers" "op" "[I") zw_X7_errorOf_95) (fun _ h9 => h9) rfl dX7_errorOf_24 ?_
  refine lv_iload hx hb dX7_errorOf_27 (lv_at hl 6 rfl) ?_
  obtain ⟨h_9, hfn⟩ := zg_s hfn
  refine va_iald hx hb hK hP 7 3 rfl rfl h_9 dX7_errorOf_29 ?_
  refine lv_istore (lv' := [(8, .int (f7 p4.toNatClampNeg)), (6, .long (o_5 / 2).toInt64), (5, .int o_5), (0, .ref h0), (1, .ref h1), (2, .ref h2), (3, .ref h3), (4, .int p4)]) hx hb dX7_errorOf_30 hl (of_decide_eq_true rfl) rfl (fun ls hl => ?_)
  refine lv_iload hx hb dX7_errorOf_32 (lv_at hl 0 rfl) ?_
  refine lv_if_ne (tgt := 40) hx hb dX7_errorOf_34 (of_decide_eq_true rfl) (fun c_10 => ?_) (fun c_10 => ?_)
  · have hfn := (if_neg c_10).symm.trans hfn
    refine lv_aload_n hx hb dX7_errorOf_40 rfl (lv_at hl 3 rfl) ?_
    refine lv_aload_n hx hb dX7_errorOf_41 rfl (lv_at hl 4 rfl) ?_
    refine lv_aload_n hx hb dX7_errorOf_42 rfl (lv_at hl 6 rfl) ?_
    refine lv_iload hx hb dX7_errorOf_43 (lv_at hl 7 rfl) ?_
    refine lv_iconst (v := 0) hx hb dX7_errorOf_45 zci_0 ?_
    obtain ⟨o_11, hqo_11, hfn⟩ := zb_s hfn
    refine zcNVl (ci := 7) (rest := []) (pc' := 49) (ws' := [zV7 h0 r0_0 v0_1 v0_2, zV9 h1 v1_0 r1_1 r1_2 r1_3 r1_4 v1_5 r1_6 r1_7 r1_8, zV4 r1_6 v2_0 v2_1 r2_2 r2_3 r2_4 r2_5 r2_6 r2_7 r2_8 r2_9, zV2 r1_7 v3_0 v3_1 v3_2 r3_3 r3_4 r3_5, zVi r3_3 k4 14 f4, zVi h3 k5 14 f5, zVi r1_2 k6 4 f6, zVi r2_3 k7 14 f7, zVi r2_8 k8 28 f8, zVl r0_0 k9 14 f9, zVi r2_9 k10 28 f10, zV6 h2 r11_0 r11_1 r11_2, zVl r11_0 k12 14 f12, zVl r11_1 k13 14 f13]) hP hK hD hS hA ⟨hx, hb, hml, hown, hts⟩ (zf_X7_errorBehindCast l dC dI h0 h1 h3 p4 0 r0_0 v0_1 v0_2 v1_0 r1_1 r1_2 r1_3 r1_4 v1_5 r1_6 r1_7 r1_8 v2_0 v2_1 r2_2 r2_3 r2_4 r2_5 r2_6 r2_7 r2_8 r2_9 v3_0 v3_1 v3_2 r3_3 r3_4 r3_5 k4 f4 k5 f5 k6 f6 k8 f8 k9 f9 k10 f10 o_11 hqo_11 H.size) ⟨hn0, trivial⟩ (cwV 4 hts gX7_errorOf_X7_errorBehindCast rfl rfl rfl zhd_X7_errorBehindCast ⟨Nat.le_of_ble_eq_true rfl, Nat.le_of_ble_eq_true rfl⟩) [0, 1, 2, 3, 4, 5, 6, 8, 9, 10] rfl (of_decide_eq_true rfl) [0, 1, 2, 4, 5, 6] rfl rfl rfl rfl hl.1 rfl (Nat.le_of_ble_eq_true rfl) dX7_errorOf_46 ⟨Nat.le_of_ble_eq_true rfl, Nat.le_of_ble_eq_true rfl⟩ [some 0, some 1, some 2, some 3, some 4, some 5, some 6, none, some 7, some 8, some 9] (of_decide_eq_true rfl) (of_decide_eq_true rfl) rfl rfl rfl (fun H locs hP hD hS => ?_)
    refine lv_lstore (lv' := [(9, .long o_11), (8, .int (f7 p4.toNatClampNeg)), (6, .long (o_5 / 2).toInt64), (5, .int o_5), (0, .ref h0), (1, .ref h1), (2, .ref h2), (3, .ref h3), (4, .int p4)]) hx hb dX7_errorOf_49 hl (of_decide_eq_true rfl) rfl (fun ls hl => ?_)
    refine lv_aload_n hx hb dX7_errorOf_51 rfl (lv_at hl 4 rfl) ?_
    refine lv_aload_n hx hb dX7_errorOf_52 rfl (lv_at hl 5 rfl) ?_
    refine lv_aload_n hx hb dX7_errorOf_53 rfl (lv_at hl 7 rfl) ?_
    refine lv_iload hx hb dX7_errorOf_54 (lv_at hl 8 rfl) ?_
    refine lv_iconst (v := 1) hx hb dX7_errorOf_56 zci_1 ?_
    obtain ⟨o_15, hqo_15, hfn⟩ := zb_s hfn
    refine zcNVl (ci := 7) (rest := []) (pc' := 60) (ws' := [zV7 h0 r0_0 v0_1 v0_2, zV9 h1 v1_0 r1_1 r1_2 r1_3 r1_4 v1_5 r1_6 r1_7 r1_8, zV4 r1_6 v2_0 v2_1 r2_2 r2_3 r2_4 r2_5 r2_6 r2_7 r2_8 r2_9, zV2 r1_7 v3_0 v3_1 v3_2 r3_3 r3_4 r3_5, zVi r3_3 k4 14 f4, zVi h3 k5 14 f5, zVi r1_2 k6 4 f6, zVi r2_3 k7 14 f7, zVi r2_8 k8 28 f8, zVl r0_0 k9 14 f9, zVi r2_9 k10 28 f10, zV6 h2 r11_0 r11_1 r11_2, zVl r11_0 k12 14 f12, zVl r11_1 k13 14 f13]) hP hK hD hS hA ⟨hx, hb, hml, hown, hts⟩ (zf_X7_errorBehindCast l dC dI h0 h1 h3 p4 1 r0_0 v0_1 v0_2 v1_0 r1_1 r1_2 r1_3 r1_4 v1_5 r1_6 r1_7 r1_8 v2_0 v2_1 r2_2 r2_3 r2_4 r2_5 r2_6 r2_7 r2_8 r2_9 v3_0 v3_1 v3_2 r3_3 r3_4 r3_5 k4 f4 k5 f5 k6 f6 k8 f8 k9 f9 k10 f10 o_15 hqo_15 H.size) ⟨hn0, trivial⟩ (cwV 4 hts gX7_errorOf_X7_errorBehindCast rfl rfl rfl zhd_X7_errorBehindCast ⟨Nat.le_of_ble_eq_true rfl, Nat.le_of_ble_eq_true rfl⟩) [0, 1, 2, 3, 4, 5, 6, 8, 9, 10] rfl (of_decide_eq_true rfl) [0, 1, 2, 4, 5, 6] rfl rfl rfl rfl hl.1 rfl (Nat.le_of_ble_eq_true rfl) dX7_errorOf_57 ⟨Nat.le_of_ble_eq_true rfl, Nat.le_of_ble_eq_true rfl⟩ [some 0, some 1, some 2, some 3, some 4, some 5, some 6, none, some 7, some 8, some 9] (of_decide_eq_true rfl) (of_decide_eq_true rfl) rfl rfl rfl (fun H locs hP hD hS => ?_)
    refine lv_lstore (lv' := [(11, .long o_15), (9, .long o_11), (8, .int (f7 p4.toNatClampNeg)), (6, .long (o_5 / 2).toInt64), (5, .int o_5), (0, .ref h0), (1, .ref h1), (2, .ref h2), (3, .ref h3), (4, .int p4)]) hx hb dX7_errorOf_60 hl (of_decide_eq_true rfl) rfl (fun ls hl => ?_)
    refine lv_iload hx hb dX7_errorOf_62 (lv_at hl 2 rfl) ?_
    refine lv_iconst (v := 4) hx hb dX7_errorOf_64 zci_4 ?_
    refine lv_icmp_eq (tgt := 74) hx hb dX7_errorOf_65 (of_decide_eq_true rfl) (fun c_19 => ?_) (fun c_19 => ?_)
    · have hfn := (if_pos c_19).symm.trans hfn
      refine lv_lload hx hb dX7_errorOf_74 (lv_at hl 1 rfl) ?_
      refine lv_lload hx hb dX7_errorOf_76 (lv_at hl 0 rfl) ?_
      refine va_mmax_long hx hb (by rw [hml]; exact hl.1.symm) hown (hts (.methodLink RX7 69 Lib.MathLoose.max_long.x) zw_X7_errorOf_102) (hts (.static Lib.MathLoose.max_long.x) zw_X7_errorOf_103) (hts (.initialized "java/lang/Math") zw_X7_errorOf_104) (hts (.code Lib.MathLoose.max_long.x Lib.MathLoose.max_long.code 4 (some .long)) zw_X7_errorOf_105) (Nat.le_of_ble_eq_true rfl) (Nat.le_of_ble_eq_true rfl) (Nat.le_of_ble_eq_true rfl) (Nat.le_of_ble_eq_true rfl) dX7_errorOf_78 ?_
      have ho := Option.some.inj hfn
      subst ho
      exact zrl hx hb hr hK hP hD hS hQ rfl hlocks dX7_errorOf_81
    have hfn := (if_neg c_19).symm.trans hfn
    refine lv_iload hx hb dX7_errorOf_68 (lv_at hl 2 rfl) ?_
    refine lv_iconst (v := 5) hx hb dX7_errorOf_70 zci_5 ?_
    refine lv_icmp_ne (tgt := 82) hx hb dX7_errorOf_71 (of_decide_eq_true rfl) (fun c_20 => ?_) (fun c_20 => ?_)
    · have hfn := (if_neg c_20).symm.trans hfn
      refine lv_iload hx hb dX7_errorOf_82 (lv_at hl 2 rfl) ?_
      refine lv_iconst (v := 3) hx hb dX7_errorOf_84 zci_3 ?_
      refine lv_icmp_eq (tgt := 94) hx hb dX7_errorOf_85 (of_decide_eq_true rfl) (fun c_21 => ?_) (fun c_21 => ?_)
      · have hfn := (if_pos c_21).symm.trans hfn
        refine lv_aload_n hx hb dX7_errorOf_94 rfl (lv_at hl 7 rfl) ?_
        refine lv_aload_n hx hb dX7_errorOf_95 rfl (lv_at hl 6 rfl) ?_
        refine va_get (D := (dC, dI)) (ci := 9) (v := .ref r1_6) (C := RX9) (T := TX9) (N := 9) hx hb hts zn_X7_errorOf_X9 hown hK hP 1 rfl rfl 6 (of_decide_eq_true rfl) (hts (.fieldLink RX7 22 "ShortEnough$Task" "numbers" "LShortEnough$Numbers;") zw_X7_errorOf_93) (fun _ h9 => h9) rfl dX7_errorOf_96 ?_
        refine lv_iload hx hb dX7_errorOf_99 (lv_at hl 9 rfl) ?_
        refine lv_iconst (v := 0) hx hb dX7_errorOf_101 zci_0 ?_
        obtain ⟨o_22, hqo_22, hfn⟩ := zb_s hfn
        refine zcVl (ci := 6) (rest := []) (pc' := 105) (ws' := [zV7 h0 r0_0 v0_1 v0_2, zV9 h1 v1_0 r1_1 r1_2 r1_3 r1_4 v1_5 r1_6 r1_7 r1_8, zV4 r1_6 v2_0 v2_1 r2_2 r2_3 r2_4 r2_5 r2_6 r2_7 r2_8 r2_9, zV2 r1_7 v3_0 v3_1 v3_2 r3_3 r3_4 r3_5, zVi r3_3 k4 14 f4, zVi h3 k5 14 f5, zVi r1_2 k6 4 f6, zVi r2_3 k7 14 f7, zVi r2_8 k8 28 f8, zVl r0_0 k9 14 f9, zVi r2_9 k10 28 f10, zV6 h2 r11_0 r11_1 r11_2, zVl r11_0 k12 14 f12, zVl r11_1 k13 14 f13]) hP hK hD hS hA ⟨hx, hb, hml, hown, hts⟩ (zf_X6_amountOfWhat l dC dI h2 r1_6 p4 0 r11_0 r11_1 r11_2 v2_0 v2_1 r2_2 r2_3 r2_4 r2_5 r2_6 r2_7 r2_8 r2_9 k8 f8 k10 f10 k12 f12 k13 f13 o_22 hqo_22 H.size) (cwV 3 hts gX7_errorOf_X6_amountOfWhat rfl rfl rfl zhd_X6_amountOfWhat ⟨Nat.le_of_ble_eq_true rfl, Nat.le_of_ble_eq_true rfl⟩) [11, 2, 8, 10, 12, 13] rfl (of_decide_eq_true rfl) [4, 6, 7, 8] rfl rfl rfl rfl hl.1 rfl (Nat.le_of_ble_eq_true rfl) dX7_errorOf_102 ⟨Nat.le_of_ble_eq_true rfl, Nat.le_of_ble_eq_true rfl⟩ [none, none, some 1, none, none, none, none, none, some 2, none, some 3, some 0, some 4, some 5] (of_decide_eq_true rfl) (of_decide_eq_true rfl) rfl rfl rfl (fun H locs hP hD hS => ?_)
        refine lv_lstore (lv' := [(13, .long o_22), (11, .long o_15), (9, .long o_11), (8, .int (f7 p4.toNatClampNeg)), (6, .long (o_5 / 2).toInt64), (5, .int o_5), (0, .ref h0), (1, .ref h1), (2, .ref h2), (3, .ref h3), (4, .int p4)]) hx hb dX7_errorOf_105 hl (of_decide_eq_true rfl) rfl (fun ls hl => ?_)
        refine lv_aload_n hx hb dX7_errorOf_107 rfl (lv_at hl 8 rfl) ?_
        refine lv_aload_n hx hb dX7_errorOf_108 rfl (lv_at hl 7 rfl) ?_
        refine va_get (D := (dC, dI)) (ci := 9) (v := .ref r1_6) (C := RX9) (T := TX9) (N := 9) hx hb hts zn_X7_errorOf_X9 hown hK hP 1 rfl rfl 6 (of_decide_eq_true rfl) (hts (.fieldLink RX7 22 "ShortEnough$Task" "numbers" "LShortEnough$Numbers;") zw_X7_errorOf_93) (fun _ h9 => h9) rfl dX7_errorOf_109 ?_
        refine lv_iload hx hb dX7_errorOf_112 (lv_at hl 10 rfl) ?_
        refine lv_iconst (v := 1) hx hb dX7_errorOf_114 zci_1 ?_
        obtain ⟨o_26, hqo_26, hfn⟩ := zb_s hfn
        refine zcVl (ci := 6) (rest := []) (pc' := 118) (ws' := [zV7 h0 r0_0 v0_1 v0_2, zV9 h1 v1_0 r1_1 r1_2 r1_3 r1_4 v1_5 r1_6 r1_7 r1_8, zV4 r1_6 v2_0 v2_1 r2_2 r2_3 r2_4 r2_5 r2_6 r2_7 r2_8 r2_9, zV2 r1_7 v3_0 v3_1 v3_2 r3_3 r3_4 r3_5, zVi r3_3 k4 14 f4, zVi h3 k5 14 f5, zVi r1_2 k6 4 f6, zVi r2_3 k7 14 f7, zVi r2_8 k8 28 f8, zVl r0_0 k9 14 f9, zVi r2_9 k10 28 f10, zV6 h2 r11_0 r11_1 r11_2, zVl r11_0 k12 14 f12, zVl r11_1 k13 14 f13]) hP hK hD hS hA ⟨hx, hb, hml, hown, hts⟩ (zf_X6_amountOfWhat l dC dI h2 r1_6 p4 1 r11_0 r11_1 r11_2 v2_0 v2_1 r2_2 r2_3 r2_4 r2_5 r2_6 r2_7 r2_8 r2_9 k8 f8 k10 f10 k12 f12 k13 f13 o_26 hqo_26 H.size) (cwV 3 hts gX7_errorOf_X6_amountOfWhat rfl rfl rfl zhd_X6_amountOfWhat ⟨Nat.le_of_ble_eq_true rfl, Nat.le_of_ble_eq_true rfl⟩) [11, 2, 8, 10, 12, 13] rfl (of_decide_eq_true rfl) [4, 6, 7, 8] rfl rfl rfl rfl hl.1 rfl (Nat.le_of_ble_eq_true rfl) dX7_errorOf_115 ⟨Nat.le_of_ble_eq_true rfl, Nat.le_of_ble_eq_true rfl⟩ [none, none, some 1, none, none, none, none, none, some 2, none, some 3, some 0, some 4, some 5] (of_decide_eq_true rfl) (of_decide_eq_true rfl) rfl rfl rfl (fun H locs hP hD hS => ?_)
        refine lv_lstore (lv' := [(15, .long o_26), (13, .long o_22), (11, .long o_15), (9, .long o_11), (8, .int (f7 p4.toNatClampNeg)), (6, .long (o_5 / 2).toInt64), (5, .int o_5), (0, .ref h0), (1, .ref h1), (2, .ref h2), (3, .ref h3), (4, .int p4)]) hx hb dX7_errorOf_118 hl (of_decide_eq_true rfl) rfl (fun ls hl => ?_)
        refine lv_lload hx hb dX7_errorOf_120 (lv_at hl 1 rfl) ?_
        refine lv_lload hx hb dX7_errorOf_122 (lv_at hl 2 rfl) ?_
        refine lv_lmul hx hb dX7_errorOf_124 ?_
        refine lv_lload hx hb dX7_errorOf_125 (lv_at hl 0 rfl) ?_
        refine lv_lload hx hb dX7_errorOf_127 (lv_at hl 3 rfl) ?_
        refine lv_lmul hx hb dX7_errorOf_129 ?_
        refine lv_ladd hx hb dX7_errorOf_130 ?_
        refine lv_lload hx hb dX7_errorOf_131 (lv_at hl 3 rfl) ?_
        refine lv_lload hx hb dX7_errorOf_133 (lv_at hl 2 rfl) ?_
        refine lv_lmul hx hb dX7_errorOf_135 ?_
        refine lv_ladd hx hb dX7_errorOf_136 ?_
        refine lv_ldc2 (v := 999) hx hb hown (hts (.constantLong RX7 79 (999)) zw_X7_errorOf_116) dX7_errorOf_137 ?_
        refine lv_ladd hx hb dX7_errorOf_140 ?_
        refine lv_ldc2 (v := 1000) hx hb hown (hts (.constantLong RX7 81 (1000)) zw_X7_errorOf_117) dX7_errorOf_141 ?_
        refine lv_ldiv hx hb dX7_errorOf_144 (by decide +kernel) ?_
        refine lv_topl (fun x_30 ex_30 => ?_)
        have hfn := zn_s hfn ex_30
        refine lv_lload hx hb dX7_errorOf_145 (lv_at hl 5 rfl) ?_
        refine lv_ladd hx hb dX7_errorOf_147 ?_
        refine lv_lconst (v := 1) hx hb dX7_errorOf_148 (by decide +kernel) ?_
        refine lv_ladd hx hb dX7_errorOf_149 ?_
        have ho := Option.some.inj hfn
        subst ho
        exact zrl hx hb hr hK hP hD hS hQ rfl hlocks dX7_errorOf_150
      have hfn := (if_neg c_21).symm.trans hfn
      refine lv_lload hx hb dX7_errorOf_88 (lv_at hl 1 rfl) ?_
      refine lv_lload hx hb dX7_errorOf_90 (lv_at hl 0 rfl) ?_
      refine lv_ladd hx hb dX7_errorOf_92 ?_
      have ho := Option.some.inj hfn
      subst ho
      exact zrl hx hb hr hK hP hD hS hQ rfl hlocks dX7_errorOf_93
    have hfn := (if_pos c_20).symm.trans hfn
    refine lv_lload hx hb dX7_errorOf_74 (lv_at hl 1 rfl) ?_
    refine lv_lload hx hb dX7_errorOf_76 (lv_at hl 0 rfl) ?_
    refine va_mmax_long hx hb (by rw [hml]; exact hl.1.symm) hown (hts (.methodLink RX7 69 Lib.MathLoose.max_long.x) zw_X7_errorOf_102) (hts (.static Lib.MathLoose.max_long.x) zw_X7_errorOf_103) (hts (.initialized "java/lang/Math") zw_X7_errorOf_104) (hts (.code Lib.MathLoose.max_long.x Lib.MathLoose.max_long.code 4 (some .long)) zw_X7_errorOf_105) (Nat.le_of_ble_eq_true rfl) (Nat.le_of_ble_eq_true rfl) (Nat.le_of_ble_eq_true rfl) (Nat.le_of_ble_eq_true rfl) dX7_errorOf_78 ?_
    have ho := Option.some.inj hfn
    subst ho
    exact zrl hx hb hr hK hP hD hS hQ rfl hlocks dX7_errorOf_81
  have hfn := (if_pos c_10).symm.trans hfn
  refine lv_lload hx hb dX7_errorOf_37 (lv_at hl 1 rfl) ?_
  have ho := Option.some.inj hfn
  subst ho
  exact zrl hx hb hr hK hP hD hS hQ rfl hlocks dX7_errorOf_39
theorem zn_X6_amountOf_X6 : ∀ w ∈ wsX60, w ∈ wsX6_amountOf := fun _ h => List.mem_cons_of_mem _ (List.mem_append_right _ h)
theorem zw_X6_amountOf_119 : Cond.fieldLink RX6 9 "ShortEnough$Ranges" "low" "[J" ∈ wsX6_amountOf := List.mem_of_getElem? (i := 1) (by decide +kernel)
theorem zw_X6_amountOf_120 : Cond.methodLink RX6 66 Lib.MathLoose.abs_long.x ∈ wsX6_amountOf := List.mem_of_getElem? (i := 2) (by decide +kernel)
theorem zw_X6_amountOf_121 : Cond.static Lib.MathLoose.abs_long.x ∈ wsX6_amountOf := List.mem_of_getElem? (i := 3) (by decide +kernel)
theorem zw_X6_amountOf_122 : Cond.initialized "java/lang/Math" ∈ wsX6_amountOf := List.mem_of_getElem? (i := 4) (by decide +kernel)
theorem zw_X6_amountOf_123 : Cond.code Lib.MathLoose.abs_long.x Lib.MathLoose.abs_long.code 2 (some .long) ∈ wsX6_amountOf := List.mem_of_getElem? (i := 5) (by decide +kernel)
theorem zw_X6_amountOf_124 : Cond.fieldLink RX6 15 "ShortEnough$Ranges" "high" "[J" ∈ wsX6_amountOf := List.mem_of_getElem? (i := 6) (by decide +kernel)
theorem zw_X6_amountOf_125 : Cond.methodLink RX6 63 Lib.MathLoose.max_long.x ∈ wsX6_amountOf := List.mem_of_getElem? (i := 7) (by decide +kernel)
theorem zw_X6_amountOf_126 : Cond.static Lib.MathLoose.max_long.x ∈ wsX6_amountOf := List.mem_of_getElem? (i := 8) (by decide +kernel)
theorem zw_X6_amountOf_127 : Cond.code Lib.MathLoose.max_long.x Lib.MathLoose.max_long.code 4 (some .long) ∈ wsX6_amountOf := List.mem_of_getElem? (i := 9) (by decide +kernel)
set_option maxHeartbeats 4000000 in
set_option maxRecDepth 100000 in
theorem zf_X6_amountOf (l : Launch) (dC : Nat → ClassId) (dI : Nat → Nat → Nat) (h0 : Nat) (p1 : Int32) (r0_0 : Nat) (r0_1 : Nat) (r0_2 : Nat) (k1 : Nat) (f1 : Nat → Int64) (k2 : Nat) (f2 : Nat → Int64) (o : Int64) (hfn : fn_X6_amountOf p1 f1 f2 = some o) (sz : Nat) : zMl l yX6_amountOf wsX6_amountOf ({ frames := 1, cells := 0, slots := 0, locals := 40 }) (dC, dI) vwCl [.ref h0, .int p1] [zV6 h0 r0_0 r0_1 r0_2, zVl r0_0 k1 14 f1, zVl r0_1 k2 14 f2] [(k1, .long), (k2, .long)] (fun r _ => r = o) [zV6 h0 r0_0 r0_1 r0_2, zVl r0_0 k1 14 f1, zVl r0_1 k2 14 f2] [(k1, .long), (k2, .long)] sz := by
  refine zgol (cc := cX6_amountOf) (maxL := 2) (ret := (some .long)) (C0 := RX6) (lv0 := [(0, .ref h0), (1, .int p1)]) zpl_X6 rfl rfl rfl (Nat.le_of_ble_eq_true rfl) ?_
  intro p e s m below meth c A ls Q hx hb hr hts hown hlocks hml hP hK hD hA hS hl hQ
  unfold fn_X6_amountOf at hfn
  refine lv_aload_n hx hb dX6_amountOf_0 rfl (lv_at hl 0 rfl) ?_
  refine va_get (D := (dC, dI)) (ci := 6) (v := .ref r0_0) (C := RX6) (T := TX6) (N := 3) hx hb hts zn_X6_amountOf_X6 hown hK hP 0 rfl rfl 0 (of_decide_eq_true rfl) (hts (.fieldLink RX6 9 "ShortEnough$Ranges" "low" "[J") zw_X6_amountOf_119) (fun _ h9 => h9) rfl dX6_amountOf_1 ?_
  refine lv_iload_n hx hb dX6_amountOf_4 rfl (lv_at hl 1 rfl) ?_
  obtain ⟨h_1, hfn⟩ := zg_s hfn
  refine va_lald hx hb hK hP 1 0 rfl rfl h_1 dX6_amountOf_5 ?_
  refine va_mabs_long hx hb (by rw [hml]; exact hl.1.symm) hown (hts (.methodLink RX6 66 Lib.MathLoose.abs_long.x) zw_X6_amountOf_120) (hts (.static Lib.MathLoose.abs_long.x) zw_X6_amountOf_121) (hts (.initialized "java/lang/Math") zw_X6_amountOf_122) (hts (.code Lib.MathLoose.abs_long.x Lib.MathLoose.abs_long.code 2 (some .long)) zw_X6_amountOf_123) (Nat.le_of_ble_eq_true rfl) (Nat.le_of_ble_eq_true rfl) (Nat.le_of_ble_eq_true rfl) (Nat.le_of_ble_eq_true rfl) dX6_amountOf_6 ?_
  refine lv_topl (fun x_2 ex_2 => ?_)
  have hfn := zn_s hfn ex_2
  refine lv_aload_n hx hb dX6_amountOf_9 rfl (lv_at hl 0 rfl) ?_
  refine va_get (D := (dC, dI)) (ci := 6) (v := .ref r0_1) (C := RX6) (T := TX6) (N := 3) hx hb hts zn_X6_amountOf_X6 hown hK hP 0 rfl rfl 1 (of_decide_eq_true rfl) (hts (.fieldLink RX6 15 "ShortEnough$Ranges" "high" "[J") zw_X6_amountOf_124) (fun _ h9 => h9) rfl dX6_amountOf_10 ?_
  refine lv_iload_n hx hb dX6_amountOf_13 rfl (lv_at hl 1 rfl) ?_
  refine va_lald hx hb hK hP 2 1 rfl rfl h_1 dX6_amountOf_14 ?_
  refine va_mabs_long hx hb (by rw [hml]; exact hl.1.symm) hown (hts (.methodLink RX6 66 Lib.MathLoose.abs_long.x) zw_X6_amountOf_120) (hts (.static Lib.MathLoose.abs_long.x) zw_X6_amountOf_121) (hts (.initialized "java/lang/Math") zw_X6_amountOf_122) (hts (.code Lib.MathLoose.abs_long.x Lib.MathLoose.abs_long.code 2 (some .long)) zw_X6_amountOf_123) (Nat.le_of_ble_eq_true rfl) (Nat.le_of_ble_eq_true rfl) (Nat.le_of_ble_eq_true rfl) (Nat.le_of_ble_eq_true rfl) dX6_amountOf_15 ?_
  refine lv_topl (fun x_3 ex_3 => ?_)
  have hfn := zn_s hfn ex_3
  refine va_mmax_long hx hb (by rw [hml]; exact hl.1.symm) hown (hts (.methodLink RX6 63 Lib.MathLoose.max_long.x) zw_X6_amountOf_125) (hts (.static Lib.MathLoose.max_long.x) zw_X6_amountOf_126) (hts (.initialized "java/lang/Math") zw_X6_amountOf_122) (hts (.code Lib.MathLoose.max_long.x Lib.MathLoose.max_long.code 4 (some .long)) zw_X6_amountOf_127) (Nat.le_of_ble_eq_true rfl) (Nat.le_of_ble_eq_true rfl) (Nat.le_of_ble_eq_true rfl) (Nat.le_of_ble_eq_true rfl) dX6_amountOf_18 ?_
  have ho := Option.some.inj hfn
  subst ho
  exact zrl hx hb hr hK hP hD hS hQ rfl hlocks dX6_amountOf_21
theorem zn_X9_mostOf_X9 : ∀ w ∈ wsX90, w ∈ wsX9_mostOf := fun _ h => List.mem_cons_of_mem _ (List.mem_append_right _ h)
theorem zw_X9_mostOf_129 : Cond.fieldLink RX9 45 "ShortEnough$Task" "formats" "I" ∈ wsX9_mostOf := List.mem_of_getElem? (i := 1) (by decide +kernel)
theorem zw_X9_mostOf_130 : Cond.fieldLink RX9 18 "ShortEnough$Task" "most" "[I" ∈ wsX9_mostOf := List.mem_of_getElem? (i := 2) (by decide +kernel)
set_option maxHeartbeats 4000000 in
set_option maxRecDepth 100000 in
theorem zf_X9_mostOf (l : Launch) (dC : Nat → ClassId) (dI : Nat → Nat → Nat) (h0 : Nat) (p1 : Int32) (v0_0 : Int32) (r0_1 : Nat) (r0_2 : Nat) (r0_3 : Nat) (r0_4 : Nat) (v0_5 : Int32) (r0_6 : Nat) (r0_7 : Nat) (r0_8 : Nat) (k1 : Nat) (f1 : Nat → Int32) (o : Int32) (hfn : fn_X9_mostOf p1 v0_0 f1 = some o) (sz : Nat) : zMi l yX9_mostOf wsX9_mostOf ({ frames := 0, cells := 0, slots := 0, locals := 0 }) (dC, dI) vwCl [.ref h0, .int p1] [zV9 h0 v0_0 r0_1 r0_2 r0_3 r0_4 v0_5 r0_6 r0_7 r0_8, zVi r0_3 k1 4 f1] [(k1, .int)] (fun r _ => r = o) [zV9 h0 v0_0 r0_1 r0_2 r0_3 r0_4 v0_5 r0_6 r0_7 r0_8, zVi r0_3 k1 4 f1] [(k1, .int)] sz := by
  refine zgoi (cc := cX9_mostOf) (maxL := 2) (ret := (some .int)) (C0 := RX9) (lv0 := [(0, .ref h0), (1, .int p1)]) zpl_X9 rfl rfl rfl (Nat.le_of_ble_eq_true rfl) ?_
  intro p e s m below meth c A ls Q hx hb hr hts hown hlocks hml hP hK hD hA hS hl hQ
  unfold fn_X9_mostOf at hfn
  refine lv_iload_n hx hb dX9_mostOf_0 rfl (lv_at hl 1 rfl) ?_
  refine lv_if_lt (tgt := 21) hx hb dX9_mostOf_1 (of_decide_eq_true rfl) (fun c_1 => ?_) (fun c_1 => ?_)
  · have hfn := (if_pos c_1).symm.trans hfn
    refine lv_iconst (v := 0) hx hb dX9_mostOf_21 zci_0 ?_
    have ho := Option.some.inj hfn
    subst ho
    exact zri hx hb hr hK hP hD hS hQ rfl hlocks dX9_mostOf_22
  have hfn := (if_neg c_1).symm.trans hfn
  refine lv_iload_n hx hb dX9_mostOf_4 rfl (lv_at hl 1 rfl) ?_
  refine lv_aload_n hx hb dX9_mostOf_5 rfl (lv_at hl 0 rfl) ?_
  refine va_get (D := (dC, dI)) (ci := 9) (v := .int v0_0) (C := RX9) (T := TX9) (N := 9) hx hb hts zn_X9_mostOf_X9 hown hK hP 0 rfl rfl 0 (of_decide_eq_true rfl) (hts (.fieldLink RX9 45 "ShortEnough$Task" "formats" "I") zw_X9_mostOf_129) (fun _ h9 => h9) rfl dX9_mostOf_6 ?_
  refine lv_icmp_ge (tgt := 21) hx hb dX9_mostOf_9 (of_decide_eq_true rfl) (fun c_2 => ?_) (fun c_2 => ?_)
  · have hfn := (if_pos c_2).symm.trans hfn
    refine lv_iconst (v := 0) hx hb dX9_mostOf_21 zci_0 ?_
    have ho := Option.some.inj hfn
    subst ho
    exact zri hx hb hr hK hP hD hS hQ rfl hlocks dX9_mostOf_22
  have hfn := (if_neg c_2).symm.trans hfn
  refine lv_aload_n hx hb dX9_mostOf_12 rfl (lv_at hl 0 rfl) ?_
  refine va_get (D := (dC, dI)) (ci := 9) (v := .ref r0_3) (C := RX9) (T := TX9) (N := 9) hx hb hts zn_X9_mostOf_X9 hown hK hP 0 rfl rfl 3 (of_decide_eq_true rfl) (hts (.fieldLink RX9 18 "ShortEnough$Task" "most" "[I") zw_X9_mostOf_130) (fun _ h9 => h9) rfl dX9_mostOf_13 ?_
  refine lv_iload_n hx hb dX9_mostOf_16 rfl (lv_at hl 1 rfl) ?_
  obtain ⟨h_3, hfn⟩ := zg_s hfn
  refine va_iald hx hb hK hP 1 0 rfl rfl h_3 dX9_mostOf_17 ?_
  refine lv_goto (tgt := 22) hx hb dX9_mostOf_18 (of_decide_eq_true rfl) ?_
  have ho := Option.some.inj hfn
  subst ho
  exact zri hx hb hr hK hP hD hS hQ rfl hlocks dX9_mostOf_22
theorem zn_X9_hasNumber_X9 : ∀ w ∈ wsX90, w ∈ wsX9_hasNumber := fun _ h => List.mem_cons_of_mem _ (List.mem_append_left _ (List.mem_append_right _ h))
theorem zw_X9_hasNumber_132 : Cond.fieldLink RX9 27 "ShortEnough$Task" "numbers" "LShortEnough$Numbers;" ∈ wsX9_hasNumber := List.mem_of_getElem? (i := 1) (by decide +kernel)
theorem zn_X9_hasNumber_X4 : ∀ w ∈ wsX40, w ∈ wsX9_hasNumber := fun _ h => List.mem_cons_of_mem _ (List.mem_append_right _ h)
theorem zw_X9_hasNumber_134 : Cond.fieldLink RX9 52 "ShortEnough$Numbers" "count" "I" ∈ wsX9_hasNumber := List.mem_of_getElem? (i := 2) (by decide +kernel)
set_option maxHeartbeats 4000000 in
set_option maxRecDepth 100000 in
theorem zf_X9_hasNumber (l : Launch) (dC : Nat → ClassId) (dI : Nat → Nat → Nat) (h0 : Nat) (p1 : Int32) (v0_0 : Int32) (r0_1 : Nat) (r0_2 : Nat) (r0_3 : Nat) (r0_4 : Nat) (v0_5 : Int32) (r0_6 : Nat) (r0_7 : Nat) (r0_8 : Nat) (v1_0 : Int32) (v1_1 : Int32) (r1_2 : Nat) (r1_3 : Nat) (r1_4 : Nat) (r1_5 : Nat) (r1_6 : Nat) (r1_7 : Nat) (r1_8 : Nat) (r1_9 : Nat) (o : Int32) (hfn : fn_X9_hasNumber p1 v1_0 = some o) (sz : Nat) : zMi l yX9_hasNumber wsX9_hasNumber ({ frames := 0, cells := 0, slots := 0, locals := 0 }) (dC, dI) vwCl [.ref h0, .int p1] [zV9 h0 v0_0 r0_1 r0_2 r0_3 r0_4 v0_5 r0_6 r0_7 r0_8, zV4 r0_6 v1_0 v1_1 r1_2 r1_3 r1_4 r1_5 r1_6 r1_7 r1_8 r1_9] [] (fun r _ => r = o ∧ narrow .boolean (.int o) = .int o) [zV9 h0 v0_0 r0_1 r0_2 r0_3 r0_4 v0_5 r0_6 r0_7 r0_8, zV4 r0_6 v1_0 v1_1 r1_2 r1_3 r1_4 r1_5 r1_6 r1_7 r1_8 r1_9] [] sz := by
  refine zgoi (cc := cX9_hasNumber) (maxL := 2) (ret := (some .boolean)) (C0 := RX9) (lv0 := [(0, .ref h0), (1, .int p1)]) zpl_X9 rfl rfl rfl (Nat.le_of_ble_eq_true rfl) ?_
  intro p e s m below meth c A ls Q hx hb hr hts hown hlocks hml hP hK hD hA hS hl hQ
  unfold fn_X9_hasNumber at hfn
  refine lv_iload_n hx hb dX9_hasNumber_0 rfl (lv_at hl 1 rfl) ?_
  refine lv_if_lt (tgt := 19) hx hb dX9_hasNumber_1 (of_decide_eq_true rfl) (fun c_1 => ?_) (fun c_1 => ?_)
  · have hfn := (if_pos c_1).symm.trans hfn
    refine lv_iconst (v := 0) hx hb dX9_hasNumber_19 zci_0 ?_
    have ho := Option.some.inj hfn
    subst ho
    exact zrz hx hb hr rfl hK hP hD hS hQ ⟨rfl, zB0⟩ hlocks dX9_hasNumber_20
  have hfn := (if_neg c_1).symm.trans hfn
  refine lv_iload_n hx hb dX9_hasNumber_4 rfl (lv_at hl 1 rfl) ?_
  refine lv_aload_n hx hb dX9_hasNumber_5 rfl (lv_at hl 0 rfl) ?_
  refine va_get (D := (dC, dI)) (ci := 9) (v := .ref r0_6) (C := RX9) (T := TX9) (N := 9) hx hb hts zn_X9_hasNumber_X9 hown hK hP 0 rfl rfl 6 (of_decide_eq_true rfl) (hts (.fieldLink RX9 27 "ShortEnough$Task" "numbers" "LShortEnough$Numbers;") zw_X9_hasNumber_132) (fun _ h9 => h9) rfl dX9_hasNumber_6 ?_
  refine va_get (D := (dC, dI)) (ci := 4) (v := .int v1_0) (C := RX4) (T := TX4) (N := 10) hx hb hts zn_X9_hasNumber_X4 hown hK hP 1 rfl rfl 0 (of_decide_eq_true rfl) (hts (.fieldLink RX9 52 "ShortEnough$Numbers" "count" "I") zw_X9_hasNumber_134) (fun _ h9 => h9) rfl dX9_hasNumber_9 ?_
  refine lv_icmp_ge (tgt := 19) hx hb dX9_hasNumber_12 (of_decide_eq_true rfl) (fun c_2 => ?_) (fun c_2 => ?_)
  · have hfn := (if_pos c_2).symm.trans hfn
    refine lv_iconst (v := 0) hx hb dX9_hasNumber_19 zci_0 ?_
    have ho := Option.some.inj hfn
    subst ho
    exact zrz hx hb hr rfl hK hP hD hS hQ ⟨rfl, zB0⟩ hlocks dX9_hasNumber_20
  have hfn := (if_neg c_2).symm.trans hfn
  refine lv_iconst (v := 1) hx hb dX9_hasNumber_15 zci_1 ?_
  refine lv_goto (tgt := 20) hx hb dX9_hasNumber_16 (of_decide_eq_true rfl) ?_
  have ho := Option.some.inj hfn
  subst ho
  exact zrz hx hb hr rfl hK hP hD hS hQ ⟨rfl, zB1⟩ hlocks dX9_hasNumber_20
theorem zn_X9_isAnswer_X9 : ∀ w ∈ wsX90, w ∈ wsX9_isAnswer := fun _ h => List.mem_cons_of_mem _ (List.mem_append_left _ (List.mem_append_right _ h))
theorem zw_X9_isAnswer_136 : Cond.fieldLink RX9 27 "ShortEnough$Task" "numbers" "LShortEnough$Numbers;" ∈ wsX9_isAnswer := List.mem_of_getElem? (i := 1) (by decide +kernel)
theorem zn_X9_isAnswer_X4 : ∀ w ∈ wsX40, w ∈ wsX9_isAnswer := fun _ h => List.mem_cons_of_mem _ (List.mem_append_right _ h)
theorem zw_X9_isAnswer_138 : Cond.fieldLink RX9 74 "ShortEnough$Numbers" "allowed" "[I" ∈ wsX9_isAnswer := List.mem_of_getElem? (i := 2) (by decide +kernel)
set_option maxHeartbeats 4000000 in
set_option maxRecDepth 100000 in
theorem zf_X9_isAnswer (l : Launch) (dC : Nat → ClassId) (dI : Nat → Nat → Nat) (h0 : Nat) (p1 : Int32) (v0_0 : Int32) (r0_1 : Nat) (r0_2 : Nat) (r0_3 : Nat) (r0_4 : Nat) (v0_5 : Int32) (r0_6 : Nat) (r0_7 : Nat) (r0_8 : Nat) (v1_0 : Int32) (v1_1 : Int32) (r1_2 : Nat) (r1_3 : Nat) (r1_4 : Nat) (r1_5 : Nat) (r1_6 : Nat) (r1_7 : Nat) (r1_8 : Nat) (r1_9 : Nat) (k2 : Nat) (f2 : Nat → Int32) (o : Int32) (hfn : fn_X9_isAnswer p1 v1_0 f2 = some o) (sz : Nat) : zMi l yX9_isAnswer wsX9_isAnswer ({ frames := 1, cells := 0, slots := 0, locals := 21 }) (dC, dI) vwCl [.ref h0, .int p1] [zV9 h0 v0_0 r0_1 r0_2 r0_3 r0_4 v0_5 r0_6 r0_7 r0_8, zV4 r0_6 v1_0 v1_1 r1_2 r1_3 r1_4 r1_5 r1_6 r1_7 r1_8 r1_9, zVi r1_5 k2 14 f2] [(k2, .int)] (fun r _ => r = o ∧ narrow .boolean (.int o) = .int o) [zV9 h0 v0_0 r0_1 r0_2 r0_3 r0_4 v0_5 r0_6 r0_7 r0_8, zV4 r0_6 v1_0 v1_1 r1_2 r1_3 r1_4 r1_5 r1_6 r1_7 r1_8 r1_9, zVi r1_5 k2 14 f2] [(k2, .int)] sz := by
  refine zgoi (cc := cX9_isAnswer) (maxL := 2) (ret := (some .boolean)) (C0 := RX9) (lv0 := [(0, .ref h0), (1, .int p1)]) zpl_X9 rfl rfl rfl (Nat.le_of_ble_eq_true rfl) ?_
  intro p e s m below meth c A ls Q hx hb hr hts hown hlocks hml hP hK hD hA hS hl hQ
  unfold fn_X9_isAnswer at hfn
  refine lv_aload_n hx hb dX9_isAnswer_0 rfl (lv_at hl 0 rfl) ?_
  refine lv_iload_n hx hb dX9_isAnswer_1 rfl (lv_at hl 1 rfl) ?_
  obtain ⟨o_1, hqo_1, hfn⟩ := zb_s hfn
  refine zcVb (ci := 9) (rest := []) (pc' := 5) (ws' := [zV9 h0 v0_0 r0_1 r0_2 r0_3 r0_4 v0_5 r0_6 r0_7 r0_8, zV4 r0_6 v1_0 v1_1 r1_2 r1_3 r1_4 r1_5 r1_6 r1_7 r1_8 r1_9, zVi r1_5 k2 14 f2]) hP hK hD hS hA ⟨hx, hb, hml, hown, hts⟩ (zf_X9_hasNumber l dC dI h0 p1 v0_0 r0_1 r0_2 r0_3 r0_4 v0_5 r0_6 r0_7 r0_8 v1_0 v1_1 r1_2 r1_3 r1_4 r1_5 r1_6 r1_7 r1_8 r1_9 o_1 hqo_1 s.heap.size) (cwV 1 hts gX9_isAnswer_X9_hasNumber rfl rfl rfl zhd_X9_hasNumber ⟨Nat.le_of_ble_eq_true rfl, Nat.le_of_ble_eq_true rfl⟩) [0, 1] rfl (of_decide_eq_true rfl) [] rfl rfl rfl rfl hl.1 rfl (Nat.le_of_ble_eq_true rfl) dX9_isAnswer_2 ⟨Nat.le_of_ble_eq_true rfl, Nat.le_of_ble_eq_true rfl⟩ [some 0, some 1] (of_decide_eq_true rfl) (of_decide_eq_true rfl) rfl rfl rfl (fun H locs hw_4n hP hD hS => ?_)
  refine lv_if_eq (tgt := 25) hx hb dX9_isAnswer_5 (of_decide_eq_true rfl) (fun c_5 => ?_) (fun c_5 => ?_)
  · have hfn := (if_pos c_5).symm.trans hfn
    refine lv_iconst (v := 0) hx hb dX9_isAnswer_25 zci_0 ?_
    have ho := Option.some.inj hfn
    subst ho
    exact zrz hx hb hr rfl hK hP hD hS hQ ⟨rfl, zB0⟩ hlocks dX9_isAnswer_26
  have hfn := (if_neg c_5).symm.trans hfn
  refine lv_aload_n hx hb dX9_isAnswer_8 rfl (lv_at hl 0 rfl) ?_
  refine va_get (D := (dC, dI)) (ci := 9) (v := .ref r0_6) (C := RX9) (T := TX9) (N := 9) hx hb hts zn_X9_isAnswer_X9 hown hK hP 0 rfl rfl 6 (of_decide_eq_true rfl) (hts (.fieldLink RX9 27 "ShortEnough$Task" "numbers" "LShortEnough$Numbers;") zw_X9_isAnswer_136) (fun _ h9 => h9) rfl dX9_isAnswer_9 ?_
  refine va_get (D := (dC, dI)) (ci := 4) (v := .ref r1_5) (C := RX4) (T := TX4) (N := 10) hx hb hts zn_X9_isAnswer_X4 hown hK hP 1 rfl rfl 5 (of_decide_eq_true rfl) (hts (.fieldLink RX9 74 "ShortEnough$Numbers" "allowed" "[I") zw_X9_isAnswer_138) (fun _ h9 => h9) rfl dX9_isAnswer_12 ?_
  refine lv_iload_n hx hb dX9_isAnswer_15 rfl (lv_at hl 1 rfl) ?_
  obtain ⟨h_6, hfn⟩ := zg_s hfn
  refine va_iald hx hb hK hP 2 0 rfl rfl h_6 dX9_isAnswer_16 ?_
  refine lv_iconst (v := (-1)) hx hb dX9_isAnswer_17 zci_m1 ?_
  refine lv_icmp_eq (tgt := 25) hx hb dX9_isAnswer_18 (of_decide_eq_true rfl) (fun c_7 => ?_) (fun c_7 => ?_)
  · have hfn := (if_pos c_7).symm.trans hfn
    refine lv_iconst (v := 0) hx hb dX9_isAnswer_25 zci_0 ?_
    have ho := Option.some.inj hfn
    subst ho
    exact zrz hx hb hr rfl hK hP hD hS hQ ⟨rfl, zB0⟩ hlocks dX9_isAnswer_26
  have hfn := (if_neg c_7).symm.trans hfn
  refine lv_iconst (v := 1) hx hb dX9_isAnswer_21 zci_1 ?_
  refine lv_goto (tgt := 26) hx hb dX9_isAnswer_22 (of_decide_eq_true rfl) ?_
  have ho := Option.some.inj hfn
  subst ho
  exact zrz hx hb hr rfl hK hP hD hS hQ ⟨rfl, zB1⟩ hlocks dX9_isAnswer_26
theorem zn_X0_whyNot_X9 : ∀ w ∈ wsX90, w ∈ wsX0_whyNot := fun _ h => List.mem_cons_of_mem _ (List.mem_append_left _ (List.mem_append_left _ (List.mem_append_left _ (List.mem_append_left _ (List.mem_append_left _ (List.mem_append_right _ h))))))
theorem zw_X0_whyNot_14 : Cond.fieldLink RX0 50 "ShortEnough$Task" "groups" "LShortEnough$Groups;" ∈ wsX0_whyNot := List.mem_of_getElem? (i := 1) (by decide +kernel)
theorem zn_X0_whyNot_X2 : ∀ w ∈ wsX20, w ∈ wsX0_whyNot := fun _ h => List.mem_cons_of_mem _ (List.mem_append_left _ (List.mem_append_left _ (List.mem_append_left _ (List.mem_append_left _ (List.mem_append_right _ h)))))
theorem zw_X0_whyNot_16 : Cond.fieldLink RX0 64 "ShortEnough$Groups" "of" "[I" ∈ wsX0_whyNot := List.mem_of_getElem? (i := 2) (by decide +kernel)
theorem zn_X0_whyNot_X0 : ∀ w ∈ wsX00, w ∈ wsX0_whyNot := fun _ h => List.mem_cons_of_mem _ (List.mem_append_left _ (List.mem_append_left _ (List.mem_append_left _ (List.mem_append_right _ h))))
theorem zw_X0_whyNot_18 : Cond.fieldLink RX0 25 "ShortEnough$CertificateReader" "choice" "[I" ∈ wsX0_whyNot := List.mem_of_getElem? (i := 3) (by decide +kernel)
theorem zw_X0_whyNot_21 : Cond.fieldLink RX0 12 "ShortEnough$CertificateReader" "said" "LShortEnough$Ranges;" ∈ wsX0_whyNot := List.mem_of_getElem? (i := 4) (by decide +kernel)
theorem zn_X0_whyNot_X6 : ∀ w ∈ wsX60, w ∈ wsX0_whyNot := fun _ h => List.mem_cons_of_mem _ (List.mem_append_left _ (List.mem_append_left _ (List.mem_append_right _ h)))
theorem zw_X0_whyNot_23 : Cond.fieldLink RX0 71 "ShortEnough$Ranges" "low" "[J" ∈ wsX0_whyNot := List.mem_of_getElem? (i := 5) (by decide +kernel)
theorem zw_X0_whyNot_33 : Cond.fieldLink RX0 79 "ShortEnough$Ranges" "high" "[J" ∈ wsX0_whyNot := List.mem_of_getElem? (i := 6) (by decide +kernel)
theorem zw_X0_whyNot_34 : Cond.fieldLink RX0 21 "ShortEnough$CertificateReader" "saidErrors" "LShortEnough$Reckoning;" ∈ wsX0_whyNot := List.mem_of_getElem? (i := 7) (by decide +kernel)
theorem zn_X0_whyNot_X7 : ∀ w ∈ wsX70, w ∈ wsX0_whyNot := fun _ h => List.mem_cons_of_mem _ (List.mem_append_left _ (List.mem_append_right _ h))
theorem zw_X0_whyNot_36 : Cond.fieldLink RX0 82 "ShortEnough$Reckoning" "errors" "[J" ∈ wsX0_whyNot := List.mem_of_getElem? (i := 8) (by decide +kernel)
theorem zw_X0_whyNot_37 : Cond.fieldLink RX0 39 "ShortEnough$Task" "numbers" "LShortEnough$Numbers;" ∈ wsX0_whyNot := List.mem_of_getElem? (i := 9) (by decide +kernel)
theorem zn_X0_whyNot_X4 : ∀ w ∈ wsX40, w ∈ wsX0_whyNot := fun _ h => List.mem_cons_of_mem _ (List.mem_append_right _ h)
theorem zw_X0_whyNot_140 : Cond.fieldLink RX0 107 "ShortEnough$Numbers" "allowed" "[I" ∈ wsX0_whyNot := List.mem_of_getElem? (i := 10) (by decide +kernel)
set_option maxHeartbeats 4000000 in
set_option maxRecDepth 100000 in
theorem zf_X0_whyNot (l : Launch) (dC : Nat → ClassId) (dI : Nat → Nat → Nat) (h0 : Nat) (h1 : Nat) (p2 : Int32) (p3 : Int32) (h4 : Nat) (r0_0 : Nat) (r0_1 : Nat) (r0_2 : Nat) (v0_3 : Int32) (v0_4 : Int32) (v1_0 : Int32) (r1_1 : Nat) (r1_2 : Nat) (r1_3 : Nat) (r1_4 : Nat) (v1_5 : Int32) (r1_6 : Nat) (r1_7 : Nat) (r1_8 : Nat) (v2_0 : Int32) (v2_1 : Int32) (v2_2 : Int32) (r2_3 : Nat) (r2_4 : Nat) (r2_5 : Nat) (k3 : Nat) (f3 : Nat → Int32) (k4 : Nat) (f4 : Nat → Int32) (r5_0 : Nat) (r5_1 : Nat) (r5_2 : Nat) (k6 : Nat) (f6 : Nat → Int32) (k7 : Nat) (f7 : Nat → Int64) (k8 : Nat) (f8 : Nat → Int64) (r9_0 : Nat) (v9_1 : Int32) (v9_2 : Int32) (k10 : Nat) (f10 : Nat → Int64) (v11_0 : Int32) (v11_1 : Int32) (r11_2 : Nat) (r11_3 : Nat) (r11_4 : Nat) (r11_5 : Nat) (r11_6 : Nat) (r11_7 : Nat) (r11_8 : Nat) (r11_9 : Nat) (k12 : Nat) (f12 : Nat → Int32) (k13 : Nat) (f13 : Nat → Int32) (k14 : Nat) (f14 : Nat → Int32) (k15 : Nat) (f15 : Nat → Int32) (k16 : Nat) (f16 : Nat → Int32) (k17 : Nat) (f17 : Nat → Int32) (o : Int32 × (Nat → Int32) × (Nat → Int64) × (Nat → Int64) × (Nat → Int64)) (hfn : fn_X0_whyNot p2 p3 v1_0 f3 f4 f6 f7 f8 f10 v11_0 f12 f13 f14 f15 f16 f17 = some o) (sz : Nat) : zNi [(RX6, 83, yX11_apply, RX11), (RX7, 90, yX11_divides, RX11)] l yX0_whyNot wsX0_whyNot ({ frames := 5, cells := 0, slots := 0, locals := 134 }) (dC, dI) vwCl [.ref h0, .ref h1, .int p2, .int p3, .ref h4] [zV0 h0 r0_0 r0_1 r0_2 v0_3 v0_4, zV9 h1 v1_0 r1_1 r1_2 r1_3 r1_4 v1_5 r1_6 r1_7 r1_8, zV2 r1_7 v2_0 v2_1 v2_2 r2_3 r2_4 r2_5, zVi r2_3 k3 14 f3, zVi r0_2 k4 14 f4, zV6 r0_0 r5_0 r5_1 r5_2, zVi h4 k6 1200 f6, zVl r5_0 k7 14 f7, zVl r5_1 k8 14 f8, zV7 r0_1 r9_0 v9_1 v9_2, zVl r9_0 k10 14 f10, zV4 r1_6 v11_0 v11_1 r11_2 r11_3 r11_4 r11_5 r11_6 r11_7 r11_8 r11_9, zVi r11_3 k12 14 f12, zVi r11_8 k13 28 f13, zVi r11_9 k14 28 f14, zVi r1_2 k15 4 f15, zVi r1_3 k16 4 f16, zVi r11_5 k17 14 f17] [(k3, .int), (k4, .int), (k6, .byte), (k7, .long), (k8, .long), (k10, .long), (k12, .int), (k13, .int), (k14, .int), (k15, .int), (k16, .int), (k17, .int)] (fun r _ => r = o.1) [zV0 h0 r0_0 r0_1 r0_2 v0_3 v0_4, zV9 h1 v1_0 r1_1 r1_2 r1_3 r1_4 v1_5 r1_6 r1_7 r1_8, zV2 r1_7 v2_0 v2_1 v2_2 r2_3 r2_4 r2_5, zVi r2_3 k3 14 f3, zVi r0_2 k4 14 o.2.1, zV6 r0_0 r5_0 r5_1 r5_2, zVi h4 k6 1200 f6, zVl r5_0 k7 14 o.2.2.1, zVl r5_1 k8 14 o.2.2.2.1, zV7 r0_1 r9_0 v9_1 v9_2, zVl r9_0 k10 14 o.2.2.2.2, zV4 r1_6 v11_0 v11_1 r11_2 r11_3 r11_4 r11_5 r11_6 r11_7 r11_8 r11_9, zVi r11_3 k12 14 f12, zVi r11_8 k13 28 f13, zVi r11_9 k14 28 f14, zVi r1_2 k15 4 f15, zVi r1_3 k16 4 f16, zVi r11_5 k17 14 f17] [(k3, .int), (k4, .int), (k6, .byte), (k7, .long), (k8, .long), (k10, .long), (k12, .int), (k13, .int), (k14, .int), (k15, .int), (k16, .int), (k17, .int)] sz := by
  refine zgoNi (cc := cX0_whyNot) (maxL := 10) (ret := (some .int)) (C0 := RX0) (lv0 := [(0, .ref h0), (1, .ref h1), (2, .int p2), (3, .int p3), (4, .ref h4)]) zpl_X0 rfl rfl rfl (Nat.le_of_ble_eq_true rfl) ?_
  intro p e s m below meth c A ls Q hN hx hb hr hts hown hlocks hml hP hK hD hA hS hl hQ
  have hn0 : va_Nw (.methodLinkNest RX6 83 yX11_apply RX11) s := hN.1
  have hn1 : va_Nw (.methodLinkNest RX7 90 yX11_divides RX11) s := hN.2.1
  unfold fn_X0_whyNot at hfn
  refine lv_aload_n hx hb dX0_whyNot_0 rfl (lv_at hl 1 rfl) ?_
  refine va_get (D := (dC, dI)) (ci := 9) (v := .ref r1_7) (C := RX9) (T := TX9) (N := 9) hx hb hts zn_X0_whyNot_X9 hown hK hP 1 rfl rfl 7 (of_decide_eq_true rfl) (hts (.fieldLink RX0 50 "ShortEnough$Task" "groups" "LShortEnough$Groups;") zw_X0_whyNot_14) (fun _ h9 => h9) rfl dX0_whyNot_1 ?_
  refine va_get (D := (dC, dI)) (ci := 2) (v := .ref r2_3) (C := RX2) (T := TX2) (N := 6) hx hb hts zn_X0_whyNot_X2 hown hK hP 2 rfl rfl 3 (of_decide_eq_true rfl) (hts (.fieldLink RX0 64 "ShortEnough$Groups" "of" "[I") zw_X0_whyNot_16) (fun _ h9 => h9) rfl dX0_whyNot_4 ?_
  refine lv_iload_n hx hb dX0_whyNot_7 rfl (lv_at hl 2 rfl) ?_
  obtain ⟨h_1, hfn⟩ := zg_s hfn
  refine va_iald hx hb hK hP 3 0 rfl rfl h_1 dX0_whyNot_8 ?_
  refine lv_istore (lv' := [(5, .int (f3 p2.toNatClampNeg)), (0, .ref h0), (1, .ref h1), (2, .int p2), (3, .int p3), (4, .ref h4)]) hx hb dX0_whyNot_9 hl (of_decide_eq_true rfl) rfl (fun ls hl => ?_)
  refine lv_aload_n hx hb dX0_whyNot_11 rfl (lv_at hl 1 rfl) ?_
  refine va_get (D := (dC, dI)) (ci := 0) (v := .ref r0_2) (C := RX0) (T := TX0) (N := 5) hx hb hts zn_X0_whyNot_X0 hown hK hP 0 rfl rfl 2 (of_decide_eq_true rfl) (hts (.fieldLink RX0 25 "ShortEnough$CertificateReader" "choice" "[I") zw_X0_whyNot_18) (fun _ h9 => h9) rfl dX0_whyNot_12 ?_
  refine lv_iload hx hb dX0_whyNot_15 (lv_at hl 0 rfl) ?_
  obtain ⟨h_2, hfn⟩ := zg_s hfn
  refine va_iald hx hb hK hP 4 1 rfl rfl h_2 dX0_whyNot_17 ?_
  refine lv_iconst (v := (-1)) hx hb dX0_whyNot_18 zci_m1 ?_
  obtain ⟨j_3, ej_3, hfn⟩ := zj_g hfn
  have jp_3 : ∀ (s_3 : Int32) (H : Heap) (locs : List Loc) (ls : Array Slot), j_3 s_3 = some o → va_P (dC, dI) vwCl [zV0 h0 r0_0 r0_1 r0_2 v0_3 v0_4, zV9 h1 v1_0 r1_1 r1_2 r1_3 r1_4 v1_5 r1_6 r1_7 r1_8, zV2 r1_7 v2_0 v2_1 v2_2 r2_3 r2_4 r2_5, zVi r2_3 k3 14 f3, zVi r0_2 k4 14 f4, zV6 r0_0 r5_0 r5_1 r5_2, zVi h4 k6 1200 f6, zVl r5_0 k7 14 f7, zVl r5_1 k8 14 f8, zV7 r0_1 r9_0 v9_1 v9_2, zVl r9_0 k10 14 f10, zV4 r1_6 v11_0 v11_1 r11_2 r11_3 r11_4 r11_5 r11_6 r11_7 r11_8 r11_9, zVi r11_3 k12 14 f12, zVi r11_8 k13 28 f13, zVi r11_9 k14 28 f14, zVi r1_2 k15 4 f15, zVi r1_3 k16 4 f16, zVi r11_5 k17 14 f17] H → va_D A [zV0 h0 r0_0 r0_1 r0_2 v0_3 v0_4, zV9 h1 v1_0 r1_1 r1_2 r1_3 r1_4 v1_5 r1_6 r1_7 r1_8, zV2 r1_7 v2_0 v2_1 v2_2 r2_3 r2_4 r2_5, zVi r2_3 k3 14 f3, zVi r0_2 k4 14 f4, zV6 r0_0 r5_0 r5_1 r5_2, zVi h4 k6 1200 f6, zVl r5_0 k7 14 f7, zVl r5_1 k8 14 f8, zV7 r0_1 r9_0 v9_1 v9_2, zVl r9_0 k10 14 f10, zV4 r1_6 v11_0 v11_1 r11_2 r11_3 r11_4 r11_5 r11_6 r11_7 r11_8 r11_9, zVi r11_3 k12 14 f12, zVi r11_8 k13 28 f13, zVi r11_9 k14 28 f14, zVi r1_2 k15 4 f15, zVi r1_3 k16 4 f16, zVi r11_5 k17 14 f17] → va_S A s.heap H locs → lv_has ls 10 [(5, .int (f3 p2.toNatClampNeg)), (0, .ref h0), (1, .ref h1), (2, .int p2), (3, .int p3), (4, .ref h4)] → W p l e (headSpec wsX0_whyNot ({ frames := 5, cells := 0, slots := 0, locals := 134 })).room s m ([.ref h0, .ref h1, .int p2, .int p3, .ref h4] : List Value).toArray below meth c H locs 0 0 Q (F0 m 38 ls [.int s_3]) := by
    intro s_3 H locs ls hfn hP hD hS hl
    have hfn := zj_s ej_3 hfn
    refine lv_istore (lv' := [(6, .int s_3), (5, .int (f3 p2.toNatClampNeg)), (0, .ref h0), (1, .ref h1), (2, .int p2), (3, .int p3), (4, .ref h4)]) hx hb dX0_whyNot_38 hl (of_decide_eq_true rfl) rfl (fun ls hl => ?_)
    refine lv_aload_n hx hb dX0_whyNot_40 rfl (lv_at hl 3 rfl) ?_
    refine lv_iload_n hx hb dX0_whyNot_41 rfl (lv_at hl 5 rfl) ?_
    obtain ⟨o_4, hqo_4, hfn⟩ := zb_s hfn
    refine zcVb (ci := 9) (rest := []) (pc' := 45) (ws' := [zV0 h0 r0_0 r0_1 r0_2 v0_3 v0_4, zV9 h1 v1_0 r1_1 r1_2 r1_3 r1_4 v1_5 r1_6 r1_7 r1_8, zV2 r1_7 v2_0 v2_1 v2_2 r2_3 r2_4 r2_5, zVi r2_3 k3 14 f3, zVi r0_2 k4 14 f4, zV6 r0_0 r5_0 r5_1 r5_2, zVi h4 k6 1200 f6, zVl r5_0 k7 14 f7, zVl r5_1 k8 14 f8, zV7 r0_1 r9_0 v9_1 v9_2, zVl r9_0 k10 14 f10, zV4 r1_6 v11_0 v11_1 r11_2 r11_3 r11_4 r11_5 r11_6 r11_7 r11_8 r11_9, zVi r11_3 k12 14 f12, zVi r11_8 k13 28 f13, zVi r11_9 k14 28 f14, zVi r1_2 k15 4 f15, zVi r1_3 k16 4 f16, zVi r11_5 k17 14 f17]) hP hK hD hS hA ⟨hx, hb, hml, hown, hts⟩ (zf_X9_hasFormat l dC dI h1 p3 v1_0 r1_1 r1_2 r1_3 r1_4 v1_5 r1_6 r1_7 r1_8 o_4 hqo_4 H.size) (cwV 1 hts gX0_whyNot_X9_hasFormat rfl rfl rfl zhd_X9_hasFormat ⟨Nat.le_of_ble_eq_true rfl, Nat.le_of_ble_eq_true rfl⟩) [1] rfl (of_decide_eq_true rfl) [] rfl rfl rfl rfl hl.1 rfl (Nat.le_of_ble_eq_true rfl) dX0_whyNot_42 ⟨Nat.le_of_ble_eq_true rfl, Nat.le_of_ble_eq_true rfl⟩ [none, some 0] (of_decide_eq_true rfl) (of_decide_eq_true rfl) rfl rfl rfl (fun H locs hw_7n hP hD hS => ?_)
    refine lv_if_eq (tgt := 53) hx hb dX0_whyNot_45 (of_decide_eq_true rfl) (fun c_8 => ?_) (fun c_8 => ?_)
    · have hfn := (if_pos c_8).symm.trans hfn
      refine lv_iconst (v := 1) hx hb dX0_whyNot_53 zci_1 ?_
      have ho := Option.some.inj hfn
      subst ho
      exact zri hx hb hr hK hP hD hS hQ rfl hlocks dX0_whyNot_54
    have hfn := (if_neg c_8).symm.trans hfn
    refine lv_iload hx hb dX0_whyNot_48 (lv_at hl 0 rfl) ?_
    refine lv_if_ne (tgt := 55) hx hb dX0_whyNot_50 (of_decide_eq_true rfl) (fun c_9 => ?_) (fun c_9 => ?_)
    · have hfn := (if_neg c_9).symm.trans hfn
      refine lv_aload_n hx hb dX0_whyNot_55 rfl (lv_at hl 2 rfl) ?_
      refine va_get (D := (dC, dI)) (ci := 0) (v := .ref r0_2) (C := RX0) (T := TX0) (N := 5) hx hb hts zn_X0_whyNot_X0 hown hK hP 0 rfl rfl 2 (of_decide_eq_true rfl) (hts (.fieldLink RX0 25 "ShortEnough$CertificateReader" "choice" "[I") zw_X0_whyNot_18) (fun _ h9 => h9) rfl dX0_whyNot_56 ?_
      refine lv_iload hx hb dX0_whyNot_59 (lv_at hl 1 rfl) ?_
      refine lv_iload_n hx hb dX0_whyNot_61 rfl (lv_at hl 5 rfl) ?_
      obtain ⟨h_10, hfn⟩ := zg_s hfn
      refine va_iast hx hb hK hP hD hS 4 1 rfl rfl h_10 dX0_whyNot_62 (fun H locs hP hD hS => ?_)
      have hP : va_P (dC, dI) vwCl [zV0 h0 r0_0 r0_1 r0_2 v0_3 v0_4, zV9 h1 v1_0 r1_1 r1_2 r1_3 r1_4 v1_5 r1_6 r1_7 r1_8, zV2 r1_7 v2_0 v2_1 v2_2 r2_3 r2_4 r2_5, zVi r2_3 k3 14 f3, zVi r0_2 k4 14 (upd f4 (f3 p2.toNatClampNeg).toNatClampNeg p3), zV6 r0_0 r5_0 r5_1 r5_2, zVi h4 k6 1200 f6, zVl r5_0 k7 14 f7, zVl r5_1 k8 14 f8, zV7 r0_1 r9_0 v9_1 v9_2, zVl r9_0 k10 14 f10, zV4 r1_6 v11_0 v11_1 r11_2 r11_3 r11_4 r11_5 r11_6 r11_7 r11_8 r11_9, zVi r11_3 k12 14 f12, zVi r11_8 k13 28 f13, zVi r11_9 k14 28 f14, zVi r1_2 k15 4 f15, zVi r1_3 k16 4 f16, zVi r11_5 k17 14 f17] H := hP
      have hD := zDW hD hP rfl
      refine lv_iload_n hx hb dX0_whyNot_63 rfl (lv_at hl 4 rfl) ?_
      refine lv_bipush (v := 25) hx hb dX0_whyNot_64 zcb_25 ?_
      refine lv_imul hx hb dX0_whyNot_66 ?_
      refine lv_istore (lv' := [(7, .int (p2 * 25)), (6, .int s_3), (5, .int (f3 p2.toNatClampNeg)), (0, .ref h0), (1, .ref h1), (2, .int p2), (3, .int p3), (4, .ref h4)]) hx hb dX0_whyNot_67 hl (of_decide_eq_true rfl) rfl (fun ls hl => ?_)
      refine lv_aload_n hx hb dX0_whyNot_69 rfl (lv_at hl 3 rfl) ?_
      refine va_get (D := (dC, dI)) (ci := 0) (v := .ref r0_0) (C := RX0) (T := TX0) (N := 5) hx hb hts zn_X0_whyNot_X0 hown hK hP 0 rfl rfl 0 (of_decide_eq_true rfl) (hts (.fieldLink RX0 12 "ShortEnough$CertificateReader" "said" "LShortEnough$Ranges;") zw_X0_whyNot_21) (fun _ h9 => h9) rfl dX0_whyNot_70 ?_
      refine va_get (D := (dC, dI)) (ci := 6) (v := .ref r5_0) (C := RX6) (T := TX6) (N := 3) hx hb hts zn_X0_whyNot_X6 hown hK hP 5 rfl rfl 0 (of_decide_eq_true rfl) (hts (.fieldLink RX0 71 "ShortEnough$Ranges" "low" "[J") zw_X0_whyNot_23) (fun _ h9 => h9) rfl dX0_whyNot_73 ?_
      refine lv_iload_n hx hb dX0_whyNot_76 rfl (lv_at hl 5 rfl) ?_
      refine lv_aload hx hb dX0_whyNot_77 (lv_at hl 7 rfl) ?_
      refine lv_iload hx hb dX0_whyNot_79 (lv_at hl 0 rfl) ?_
      refine lv_iconst (v := 1) hx hb dX0_whyNot_81 zci_1 ?_
      refine lv_iadd hx hb dX0_whyNot_82 ?_
      obtain ⟨o_11, hqo_11, hfn⟩ := zb_s hfn
      refine zcSl (rest := [.int p2, .ref r5_0]) (pc' := 86) (ws' := [zV0 h0 r0_0 r0_1 r0_2 v0_3 v0_4, zV9 h1 v1_0 r1_1 r1_2 r1_3 r1_4 v1_5 r1_6 r1_7 r1_8, zV2 r1_7 v2_0 v2_1 v2_2 r2_3 r2_4 r2_5, zVi r2_3 k3 14 f3, zVi r0_2 k4 14 (upd f4 (f3 p2.toNatClampNeg).toNatClampNeg p3), zV6 r0_0 r5_0 r5_1 r5_2, zVi h4 k6 1200 f6, zVl r5_0 k7 14 f7, zVl r5_1 k8 14 f8, zV7 r0_1 r9_0 v9_1 v9_2, zVl r9_0 k10 14 f10, zV4 r1_6 v11_0 v11_1 r11_2 r11_3 r11_4 r11_5 r11_6 r11_7 r11_8 r11_9, zVi r11_3 k12 14 f12, zVi r11_8 k13 28 f13, zVi r11_9 k14 28 f14, zVi r1_2 k15 4 f15, zVi r1_3 k16 4 f16, zVi r11_5 k17 14 f17]) hP hK hD hS hA ⟨hx, hb, hml, hown, hts⟩ (zf_X0_readLong l dC dI h4 ((p2 * 25) + 1) k6 f6 o_11 hqo_11 H.size) (va_cwS 2 hts gX0_whyNot_X0_readLong rfl rfl rfl zhd_X0_readLong.2 ⟨Nat.le_of_ble_eq_true rfl, Nat.le_of_ble_eq_true rfl⟩) [6] rfl (of_decide_eq_true rfl) [2] rfl rfl hl.1 rfl (Nat.le_of_ble_eq_true rfl) dX0_whyNot_83 ⟨Nat.le_of_ble_eq_true rfl, Nat.le_of_ble_eq_true rfl⟩ [none, none, none, none, none, none, some 0] (of_decide_eq_true rfl) (of_decide_eq_true rfl) rfl rfl rfl (fun H locs hP hD hS => ?_)
      obtain ⟨h_15, hfn⟩ := zg_s hfn
      refine va_last hx hb hK hP hD hS 7 3 rfl rfl h_15 dX0_whyNot_86 (fun H locs hP hD hS => ?_)
      have hP : va_P (dC, dI) vwCl [zV0 h0 r0_0 r0_1 r0_2 v0_3 v0_4, zV9 h1 v1_0 r1_1 r1_2 r1_3 r1_4 v1_5 r1_6 r1_7 r1_8, zV2 r1_7 v2_0 v2_1 v2_2 r2_3 r2_4 r2_5, zVi r2_3 k3 14 f3, zVi r0_2 k4 14 (upd f4 (f3 p2.toNatClampNeg).toNatClampNeg p3), zV6 r0_0 r5_0 r5_1 r5_2, zVi h4 k6 1200 f6, zVl r5_0 k7 14 (vp_updL f7 p2.toNatClampNeg o_11), zVl r5_1 k8 14 f8, zV7 r0_1 r9_0 v9_1 v9_2, zVl r9_0 k10 14 f10, zV4 r1_6 v11_0 v11_1 r11_2 r11_3 r11_4 r11_5 r11_6 r11_7 r11_8 r11_9, zVi r11_3 k12 14 f12, zVi r11_8 k13 28 f13, zVi r11_9 k14 28 f14, zVi r1_2 k15 4 f15, zVi r1_3 k16 4 f16, zVi r11_5 k17 14 f17] H := hP
      have hD := zDW hD hP rfl
      refine lv_aload_n hx hb dX0_whyNot_87 rfl (lv_at hl 3 rfl) ?_
      refine va_get (D := (dC, dI)) (ci := 0) (v := .ref r0_0) (C := RX0) (T := TX0) (N := 5) hx hb hts zn_X0_whyNot_X0 hown hK hP 0 rfl rfl 0 (of_decide_eq_true rfl) (hts (.fieldLink RX0 12 "ShortEnough$CertificateReader" "said" "LShortEnough$Ranges;") zw_X0_whyNot_21) (fun _ h9 => h9) rfl dX0_whyNot_88 ?_
      refine va_get (D := (dC, dI)) (ci := 6) (v := .ref r5_1) (C := RX6) (T := TX6) (N := 3) hx hb hts zn_X0_whyNot_X6 hown hK hP 5 rfl rfl 1 (of_decide_eq_true rfl) (hts (.fieldLink RX0 79 "ShortEnough$Ranges" "high" "[J") zw_X0_whyNot_33) (fun _ h9 => h9) rfl dX0_whyNot_91 ?_
      refine lv_iload_n hx hb dX0_whyNot_94 rfl (lv_at hl 5 rfl) ?_
      refine lv_aload hx hb dX0_whyNot_95 (lv_at hl 7 rfl) ?_
      refine lv_iload hx hb dX0_whyNot_97 (lv_at hl 0 rfl) ?_
      refine lv_bipush (v := 9) hx hb dX0_whyNot_99 zcb_9 ?_
      refine lv_iadd hx hb dX0_whyNot_101 ?_
      obtain ⟨o_16, hqo_16, hfn⟩ := zb_s hfn
      refine zcSl (rest := [.int p2, .ref r5_1]) (pc' := 105) (ws' := [zV0 h0 r0_0 r0_1 r0_2 v0_3 v0_4, zV9 h1 v1_0 r1_1 r1_2 r1_3 r1_4 v1_5 r1_6 r1_7 r1_8, zV2 r1_7 v2_0 v2_1 v2_2 r2_3 r2_4 r2_5, zVi r2_3 k3 14 f3, zVi r0_2 k4 14 (upd f4 (f3 p2.toNatClampNeg).toNatClampNeg p3), zV6 r0_0 r5_0 r5_1 r5_2, zVi h4 k6 1200 f6, zVl r5_0 k7 14 (vp_updL f7 p2.toNatClampNeg o_11), zVl r5_1 k8 14 f8, zV7 r0_1 r9_0 v9_1 v9_2, zVl r9_0 k10 14 f10, zV4 r1_6 v11_0 v11_1 r11_2 r11_3 r11_4 r11_5 r11_6 r11_7 r11_8 r11_9, zVi r11_3 k12 14 f12, zVi r11_8 k13 28 f13, zVi r11_9 k14 28 f14, zVi r1_2 k15 4 f15, zVi r1_3 k16 4 f16, zVi r11_5 k17 14 f17]) hP hK hD hS hA ⟨hx, hb, hml, hown, hts⟩ (zf_X0_readLong l dC dI h4 ((p2 * 25) + 9) k6 f6 o_16 hqo_16 H.size) (va_cwS 2 hts gX0_whyNot_X0_readLong rfl rfl rfl zhd_X0_readLong.2 ⟨Nat.le_of_ble_eq_true rfl, Nat.le_of_ble_eq_true rfl⟩) [6] rfl (of_decide_eq_true rfl) [2] rfl rfl hl.1 rfl (Nat.le_of_ble_eq_true rfl) dX0_whyNot_102 ⟨Nat.le_of_ble_eq_true rfl, Nat.le_of_ble_eq_true rfl⟩ [none, none, none, none, none, none, some 0] (of_decide_eq_true rfl) (of_decide_eq_true rfl) rfl rfl rfl (fun H locs hP hD hS => ?_)
      refine va_last hx hb hK hP hD hS 8 4 rfl rfl h_15 dX0_whyNot_105 (fun H locs hP hD hS => ?_)
      have hP : va_P (dC, dI) vwCl [zV0 h0 r0_0 r0_1 r0_2 v0_3 v0_4, zV9 h1 v1_0 r1_1 r1_2 r1_3 r1_4 v1_5 r1_6 r1_7 r1_8, zV2 r1_7 v2_0 v2_1 v2_2 r2_3 r2_4 r2_5, zVi r2_3 k3 14 f3, zVi r0_2 k4 14 (upd f4 (f3 p2.toNatClampNeg).toNatClampNeg p3), zV6 r0_0 r5_0 r5_1 r5_2, zVi h4 k6 1200 f6, zVl r5_0 k7 14 (vp_updL f7 p2.toNatClampNeg o_11), zVl r5_1 k8 14 (vp_updL f8 p2.toNatClampNeg o_16), zV7 r0_1 r9_0 v9_1 v9_2, zVl r9_0 k10 14 f10, zV4 r1_6 v11_0 v11_1 r11_2 r11_3 r11_4 r11_5 r11_6 r11_7 r11_8 r11_9, zVi r11_3 k12 14 f12, zVi r11_8 k13 28 f13, zVi r11_9 k14 28 f14, zVi r1_2 k15 4 f15, zVi r1_3 k16 4 f16, zVi r11_5 k17 14 f17] H := hP
      have hD := zDW hD hP rfl
      refine lv_aload_n hx hb dX0_whyNot_106 rfl (lv_at hl 3 rfl) ?_
      refine va_get (D := (dC, dI)) (ci := 0) (v := .ref r0_1) (C := RX0) (T := TX0) (N := 5) hx hb hts zn_X0_whyNot_X0 hown hK hP 0 rfl rfl 1 (of_decide_eq_true rfl) (hts (.fieldLink RX0 21 "ShortEnough$CertificateReader" "saidErrors" "LShortEnough$Reckoning;") zw_X0_whyNot_34) (fun _ h9 => h9) rfl dX0_whyNot_107 ?_
      refine va_get (D := (dC, dI)) (ci := 7) (v := .ref r9_0) (C := RX7) (T := TX7) (N := 3) hx hb hts zn_X0_whyNot_X7 hown hK hP 9 rfl rfl 0 (of_decide_eq_true rfl) (hts (.fieldLink RX0 82 "ShortEnough$Reckoning" "errors" "[J") zw_X0_whyNot_36) (fun _ h9 => h9) rfl dX0_whyNot_110 ?_
      refine lv_iload_n hx hb dX0_whyNot_113 rfl (lv_at hl 5 rfl) ?_
      refine lv_aload hx hb dX0_whyNot_114 (lv_at hl 7 rfl) ?_
      refine lv_iload hx hb dX0_whyNot_116 (lv_at hl 0 rfl) ?_
      refine lv_bipush (v := 17) hx hb dX0_whyNot_118 zcb_17 ?_
      refine lv_iadd hx hb dX0_whyNot_120 ?_
      obtain ⟨o_20, hqo_20, hfn⟩ := zb_s hfn
      refine zcSl (rest := [.int p2, .ref r9_0]) (pc' := 124) (ws' := [zV0 h0 r0_0 r0_1 r0_2 v0_3 v0_4, zV9 h1 v1_0 r1_1 r1_2 r1_3 r1_4 v1_5 r1_6 r1_7 r1_8, zV2 r1_7 v2_0 v2_1 v2_2 r2_3 r2_4 r2_5, zVi r2_3 k3 14 f3, zVi r0_2 k4 14 (upd f4 (f3 p2.toNatClampNeg).toNatClampNeg p3), zV6 r0_0 r5_0 r5_1 r5_2, zVi h4 k6 1200 f6, zVl r5_0 k7 14 (vp_updL f7 p2.toNatClampNeg o_11), zVl r5_1 k8 14 (vp_updL f8 p2.toNatClampNeg o_16), zV7 r0_1 r9_0 v9_1 v9_2, zVl r9_0 k10 14 f10, zV4 r1_6 v11_0 v11_1 r11_2 r11_3 r11_4 r11_5 r11_6 r11_7 r11_8 r11_9, zVi r11_3 k12 14 f12, zVi r11_8 k13 28 f13, zVi r11_9 k14 28 f14, zVi r1_2 k15 4 f15, zVi r1_3 k16 4 f16, zVi r11_5 k17 14 f17]) hP hK hD hS hA ⟨hx, hb, hml, hown, hts⟩ (zf_X0_readLong l dC dI h4 ((p2 * 25) + 17) k6 f6 o_20 hqo_20 H.size) (va_cwS 2 hts gX0_whyNot_X0_readLong rfl rfl rfl zhd_X0_readLong.2 ⟨Nat.le_of_ble_eq_true rfl, Nat.le_of_ble_eq_true rfl⟩) [6] rfl (of_decide_eq_true rfl) [2] rfl rfl hl.1 rfl (Nat.le_of_ble_eq_true rfl) dX0_whyNot_121 ⟨Nat.le_of_ble_eq_true rfl, Nat.le_of_ble_eq_true rfl⟩ [none, none, none, none, none, none, some 0] (of_decide_eq_true rfl) (of_decide_eq_true rfl) rfl rfl rfl (fun H locs hP hD hS => ?_)
      refine va_last hx hb hK hP hD hS 10 5 rfl rfl h_15 dX0_whyNot_124 (fun H locs hP hD hS => ?_)
      have hP : va_P (dC, dI) vwCl [zV0 h0 r0_0 r0_1 r0_2 v0_3 v0_4, zV9 h1 v1_0 r1_1 r1_2 r1_3 r1_4 v1_5 r1_6 r1_7 r1_8, zV2 r1_7 v2_0 v2_1 v2_2 r2_3 r2_4 r2_5, zVi r2_3 k3 14 f3, zVi r0_2 k4 14 (upd f4 (f3 p2.toNatClampNeg).toNatClampNeg p3), zV6 r0_0 r5_0 r5_1 r5_2, zVi h4 k6 1200 f6, zVl r5_0 k7 14 (vp_updL f7 p2.toNatClampNeg o_11), zVl r5_1 k8 14 (vp_updL f8 p2.toNatClampNeg o_16), zV7 r0_1 r9_0 v9_1 v9_2, zVl r9_0 k10 14 (vp_updL f10 p2.toNatClampNeg o_20), zV4 r1_6 v11_0 v11_1 r11_2 r11_3 r11_4 r11_5 r11_6 r11_7 r11_8 r11_9, zVi r11_3 k12 14 f12, zVi r11_8 k13 28 f13, zVi r11_9 k14 28 f14, zVi r1_2 k15 4 f15, zVi r1_3 k16 4 f16, zVi r11_5 k17 14 f17] H := hP
      have hD := zDW hD hP rfl
      refine lv_aload_n hx hb dX0_whyNot_125 rfl (lv_at hl 3 rfl) ?_
      refine va_get (D := (dC, dI)) (ci := 0) (v := .ref r0_0) (C := RX0) (T := TX0) (N := 5) hx hb hts zn_X0_whyNot_X0 hown hK hP 0 rfl rfl 0 (of_decide_eq_true rfl) (hts (.fieldLink RX0 12 "ShortEnough$CertificateReader" "said" "LShortEnough$Ranges;") zw_X0_whyNot_21) (fun _ h9 => h9) rfl dX0_whyNot_126 ?_
      refine va_get (D := (dC, dI)) (ci := 6) (v := .ref r5_0) (C := RX6) (T := TX6) (N := 3) hx hb hts zn_X0_whyNot_X6 hown hK hP 5 rfl rfl 0 (of_decide_eq_true rfl) (hts (.fieldLink RX0 71 "ShortEnough$Ranges" "low" "[J") zw_X0_whyNot_23) (fun _ h9 => h9) rfl dX0_whyNot_129 ?_
      refine lv_iload_n hx hb dX0_whyNot_132 rfl (lv_at hl 5 rfl) ?_
      refine va_lald hx hb hK hP 7 3 rfl rfl h_15 dX0_whyNot_133 ?_
      refine lv_aload_n hx hb dX0_whyNot_134 rfl (lv_at hl 3 rfl) ?_
      refine va_get (D := (dC, dI)) (ci := 0) (v := .ref r0_0) (C := RX0) (T := TX0) (N := 5) hx hb hts zn_X0_whyNot_X0 hown hK hP 0 rfl rfl 0 (of_decide_eq_true rfl) (hts (.fieldLink RX0 12 "ShortEnough$CertificateReader" "said" "LShortEnough$Ranges;") zw_X0_whyNot_21) (fun _ h9 => h9) rfl dX0_whyNot_135 ?_
      refine lv_aload_n hx hb dX0_whyNot_138 rfl (lv_at hl 4 rfl) ?_
      refine va_get (D := (dC, dI)) (ci := 9) (v := .ref r1_6) (C := RX9) (T := TX9) (N := 9) hx hb hts zn_X0_whyNot_X9 hown hK hP 1 rfl rfl 6 (of_decide_eq_true rfl) (hts (.fieldLink RX0 39 "ShortEnough$Task" "numbers" "LShortEnough$Numbers;") zw_X0_whyNot_37) (fun _ h9 => h9) rfl dX0_whyNot_139 ?_
      refine lv_iload_n hx hb dX0_whyNot_142 rfl (lv_at hl 5 rfl) ?_
      obtain ⟨o_24, hqo_24, hfn⟩ := zb_s hfn
      refine zcNVl (ci := 6) (rest := [.long ((vp_updL f7 p2.toNatClampNeg o_11) p2.toNatClampNeg)]) (pc' := 146) (ws' := [zV0 h0 r0_0 r0_1 r0_2 v0_3 v0_4, zV9 h1 v1_0 r1_1 r1_2 r1_3 r1_4 v1_5 r1_6 r1_7 r1_8, zV2 r1_7 v2_0 v2_1 v2_2 r2_3 r2_4 r2_5, zVi r2_3 k3 14 f3, zVi r0_2 k4 14 (upd f4 (f3 p2.toNatClampNeg).toNatClampNeg p3), zV6 r0_0 r5_0 r5_1 r5_2, zVi h4 k6 1200 f6, zVl r5_0 k7 14 (vp_updL f7 p2.toNatClampNeg o_11), zVl r5_1 k8 14 (vp_updL f8 p2.toNatClampNeg o_16), zV7 r0_1 r9_0 v9_1 v9_2, zVl r9_0 k10 14 (vp_updL f10 p2.toNatClampNeg o_20), zV4 r1_6 v11_0 v11_1 r11_2 r11_3 r11_4 r11_5 r11_6 r11_7 r11_8 r11_9, zVi r11_3 k12 14 f12, zVi r11_8 k13 28 f13, zVi r11_9 k14 28 f14, zVi r1_2 k15 4 f15, zVi r1_3 k16 4 f16, zVi r11_5 k17 14 f17]) hP hK hD hS hA ⟨hx, hb, hml, hown, hts⟩ (zf_X6_lowest l dC dI r0_0 r1_6 p2 r5_0 r5_1 r5_2 v11_0 v11_1 r11_2 r11_3 r11_4 r11_5 r11_6 r11_7 r11_8 r11_9 k12 f12 k13 f13 k14 f14 k7 (vp_updL f7 p2.toNatClampNeg o_11) k8 (vp_updL f8 p2.toNatClampNeg o_16) o_24 hqo_24 H.size) ⟨hn0, trivial⟩ (cwV 2 hts gX0_whyNot_X6_lowest rfl rfl rfl zhd_X6_lowest ⟨Nat.le_of_ble_eq_true rfl, Nat.le_of_ble_eq_true rfl⟩) [5, 11, 12, 13, 14, 7, 8] rfl (of_decide_eq_true rfl) [6, 7, 8, 3, 4] rfl rfl rfl rfl hl.1 rfl (Nat.le_of_ble_eq_true rfl) dX0_whyNot_143 ⟨Nat.le_of_ble_eq_true rfl, Nat.le_of_ble_eq_true rfl⟩ [none, none, none, none, none, some 0, none, some 5, some 6, none, none, some 1, some 2, some 3, some 4] (of_decide_eq_true rfl) (of_decide_eq_true rfl) rfl rfl rfl (fun H locs hP hD hS => ?_)
      refine W.lcmp hx hb dX0_whyNot_146 ?_
      refine lv_if_le (tgt := 152) hx hb dX0_whyNot_147 (of_decide_eq_true rfl) (fun c_28 => ?_) (fun c_28 => ?_)
      · have hfn := (if_pos c_28).symm.trans hfn
        refine lv_aload_n hx hb dX0_whyNot_152 rfl (lv_at hl 3 rfl) ?_
        refine va_get (D := (dC, dI)) (ci := 0) (v := .ref r0_0) (C := RX0) (T := TX0) (N := 5) hx hb hts zn_X0_whyNot_X0 hown hK hP 0 rfl rfl 0 (of_decide_eq_true rfl) (hts (.fieldLink RX0 12 "ShortEnough$CertificateReader" "said" "LShortEnough$Ranges;") zw_X0_whyNot_21) (fun _ h9 => h9) rfl dX0_whyNot_153 ?_
        refine va_get (D := (dC, dI)) (ci := 6) (v := .ref r5_1) (C := RX6) (T := TX6) (N := 3) hx hb hts zn_X0_whyNot_X6 hown hK hP 5 rfl rfl 1 (of_decide_eq_true rfl) (hts (.fieldLink RX0 79 "ShortEnough$Ranges" "high" "[J") zw_X0_whyNot_33) (fun _ h9 => h9) rfl dX0_whyNot_156 ?_
        refine lv_iload_n hx hb dX0_whyNot_159 rfl (lv_at hl 5 rfl) ?_
        refine va_lald hx hb hK hP 8 4 rfl rfl h_15 dX0_whyNot_160 ?_
        refine lv_aload_n hx hb dX0_whyNot_161 rfl (lv_at hl 3 rfl) ?_
        refine va_get (D := (dC, dI)) (ci := 0) (v := .ref r0_0) (C := RX0) (T := TX0) (N := 5) hx hb hts zn_X0_whyNot_X0 hown hK hP 0 rfl rfl 0 (of_decide_eq_true rfl) (hts (.fieldLink RX0 12 "ShortEnough$CertificateReader" "said" "LShortEnough$Ranges;") zw_X0_whyNot_21) (fun _ h9 => h9) rfl dX0_whyNot_162 ?_
        refine lv_aload_n hx hb dX0_whyNot_165 rfl (lv_at hl 4 rfl) ?_
        refine va_get (D := (dC, dI)) (ci := 9) (v := .ref r1_6) (C := RX9) (T := TX9) (N := 9) hx hb hts zn_X0_whyNot_X9 hown hK hP 1 rfl rfl 6 (of_decide_eq_true rfl) (hts (.fieldLink RX0 39 "ShortEnough$Task" "numbers" "LShortEnough$Numbers;") zw_X0_whyNot_37) (fun _ h9 => h9) rfl dX0_whyNot_166 ?_
        refine lv_iload_n hx hb dX0_whyNot_169 rfl (lv_at hl 5 rfl) ?_
        obtain ⟨o_29, hqo_29, hfn⟩ := zb_s hfn
        refine zcNVl (ci := 6) (rest := [.long ((vp_updL f8 p2.toNatClampNeg o_16) p2.toNatClampNeg)]) (pc' := 173) (ws' := [zV0 h0 r0_0 r0_1 r0_2 v0_3 v0_4, zV9 h1 v1_0 r1_1 r1_2 r1_3 r1_4 v1_5 r1_6 r1_7 r1_8, zV2 r1_7 v2_0 v2_1 v2_2 r2_3 r2_4 r2_5, zVi r2_3 k3 14 f3, zVi r0_2 k4 14 (upd f4 (f3 p2.toNatClampNeg).toNatClampNeg p3), zV6 r0_0 r5_0 r5_1 r5_2, zVi h4 k6 1200 f6, zVl r5_0 k7 14 (vp_updL f7 p2.toNatClampNeg o_11), zVl r5_1 k8 14 (vp_updL f8 p2.toNatClampNeg o_16), zV7 r0_1 r9_0 v9_1 v9_2, zVl r9_0 k10 14 (vp_updL f10 p2.toNatClampNeg o_20), zV4 r1_6 v11_0 v11_1 r11_2 r11_3 r11_4 r11_5 r11_6 r11_7 r11_8 r11_9, zVi r11_3 k12 14 f12, zVi r11_8 k13 28 f13, zVi r11_9 k14 28 f14, zVi r1_2 k15 4 f15, zVi r1_3 k16 4 f16, zVi r11_5 k17 14 f17]) hP hK hD hS hA ⟨hx, hb, hml, hown, hts⟩ (zf_X6_highest l dC dI r0_0 r1_6 p2 r5_0 r5_1 r5_2 v11_0 v11_1 r11_2 r11_3 r11_4 r11_5 r11_6 r11_7 r11_8 r11_9 k12 f12 k13 f13 k14 f14 k8 (vp_updL f8 p2.toNatClampNeg o_16) k7 (vp_updL f7 p2.toNatClampNeg o_11) o_29 hqo_29 H.size) ⟨hn0, trivial⟩ (cwV 2 hts gX0_whyNot_X6_highest rfl rfl rfl zhd_X6_highest ⟨Nat.le_of_ble_eq_true rfl, Nat.le_of_ble_eq_true rfl⟩) [5, 11, 12, 13, 14, 8, 7] rfl (of_decide_eq_true rfl) [6, 7, 8, 4, 3] rfl rfl rfl rfl hl.1 rfl (Nat.le_of_ble_eq_true rfl) dX0_whyNot_170 ⟨Nat.le_of_ble_eq_true rfl, Nat.le_of_ble_eq_true rfl⟩ [none, none, none, none, none, some 0, none, some 6, some 5, none, none, some 1, some 2, some 3, some 4] (of_decide_eq_true rfl) (of_decide_eq_true rfl) rfl rfl rfl (fun H locs hP hD hS => ?_)
        refine W.lcmp hx hb dX0_whyNot_173 ?_
        refine lv_if_ge (tgt := 179) hx hb dX0_whyNot_174 (of_decide_eq_true rfl) (fun c_33 => ?_) (fun c_33 => ?_)
        · have hfn := (if_pos c_33).symm.trans hfn
          refine lv_aload_n hx hb dX0_whyNot_179 rfl (lv_at hl 3 rfl) ?_
          refine va_get (D := (dC, dI)) (ci := 0) (v := .ref r0_1) (C := RX0) (T := TX0) (N := 5) hx hb hts zn_X0_whyNot_X0 hown hK hP 0 rfl rfl 1 (of_decide_eq_true rfl) (hts (.fieldLink RX0 21 "ShortEnough$CertificateReader" "saidErrors" "LShortEnough$Reckoning;") zw_X0_whyNot_34) (fun _ h9 => h9) rfl dX0_whyNot_180 ?_
          refine va_get (D := (dC, dI)) (ci := 7) (v := .ref r9_0) (C := RX7) (T := TX7) (N := 3) hx hb hts zn_X0_whyNot_X7 hown hK hP 9 rfl rfl 0 (of_decide_eq_true rfl) (hts (.fieldLink RX0 82 "ShortEnough$Reckoning" "errors" "[J") zw_X0_whyNot_36) (fun _ h9 => h9) rfl dX0_whyNot_183 ?_
          refine lv_iload_n hx hb dX0_whyNot_186 rfl (lv_at hl 5 rfl) ?_
          refine va_lald hx hb hK hP 10 5 rfl rfl h_15 dX0_whyNot_187 ?_
          refine lv_lstore (lv' := [(8, .long ((vp_updL f10 p2.toNatClampNeg o_20) p2.toNatClampNeg)), (7, .int (p2 * 25)), (6, .int s_3), (5, .int (f3 p2.toNatClampNeg)), (0, .ref h0), (1, .ref h1), (2, .int p2), (3, .int p3), (4, .ref h4)]) hx hb dX0_whyNot_188 hl (of_decide_eq_true rfl) rfl (fun ls hl => ?_)
          refine lv_lload hx hb dX0_whyNot_190 (lv_at hl 0 rfl) ?_
          refine lv_aload_n hx hb dX0_whyNot_192 rfl (lv_at hl 4 rfl) ?_
          refine va_get (D := (dC, dI)) (ci := 0) (v := .ref r0_1) (C := RX0) (T := TX0) (N := 5) hx hb hts zn_X0_whyNot_X0 hown hK hP 0 rfl rfl 1 (of_decide_eq_true rfl) (hts (.fieldLink RX0 21 "ShortEnough$CertificateReader" "saidErrors" "LShortEnough$Reckoning;") zw_X0_whyNot_34) (fun _ h9 => h9) rfl dX0_whyNot_193 ?_
          refine lv_aload_n hx hb dX0_whyNot_196 rfl (lv_at hl 5 rfl) ?_
          refine lv_aload_n hx hb dX0_whyNot_197 rfl (lv_at hl 4 rfl) ?_
          refine va_get (D := (dC, dI)) (ci := 0) (v := .ref r0_0) (C := RX0) (T := TX0) (N := 5) hx hb hts zn_X0_whyNot_X0 hown hK hP 0 rfl rfl 0 (of_decide_eq_true rfl) (hts (.fieldLink RX0 12 "ShortEnough$CertificateReader" "said" "LShortEnough$Ranges;") zw_X0_whyNot_21) (fun _ h9 => h9) rfl dX0_whyNot_198 ?_
          refine lv_aload_n hx hb dX0_whyNot_201 rfl (lv_at hl 4 rfl) ?_
          refine va_get (D := (dC, dI)) (ci := 0) (v := .ref r0_2) (C := RX0) (T := TX0) (N := 5) hx hb hts zn_X0_whyNot_X0 hown hK hP 0 rfl rfl 2 (of_decide_eq_true rfl) (hts (.fieldLink RX0 25 "ShortEnough$CertificateReader" "choice" "[I") zw_X0_whyNot_18) (fun _ h9 => h9) rfl dX0_whyNot_202 ?_
          refine lv_iload_n hx hb dX0_whyNot_205 rfl (lv_at hl 6 rfl) ?_
          obtain ⟨o_34, hqo_34, hfn⟩ := zb_s hfn
          refine zcNVl (ci := 7) (rest := [.long ((vp_updL f10 p2.toNatClampNeg o_20) p2.toNatClampNeg)]) (pc' := 209) (ws' := [zV0 h0 r0_0 r0_1 r0_2 v0_3 v0_4, zV9 h1 v1_0 r1_1 r1_2 r1_3 r1_4 v1_5 r1_6 r1_7 r1_8, zV2 r1_7 v2_0 v2_1 v2_2 r2_3 r2_4 r2_5, zVi r2_3 k3 14 f3, zVi r0_2 k4 14 (upd f4 (f3 p2.toNatClampNeg).toNatClampNeg p3), zV6 r0_0 r5_0 r5_1 r5_2, zVi h4 k6 1200 f6, zVl r5_0 k7 14 (vp_updL f7 p2.toNatClampNeg o_11), zVl r5_1 k8 14 (vp_updL f8 p2.toNatClampNeg o_16), zV7 r0_1 r9_0 v9_1 v9_2, zVl r9_0 k10 14 (vp_updL f10 p2.toNatClampNeg o_20), zV4 r1_6 v11_0 v11_1 r11_2 r11_3 r11_4 r11_5 r11_6 r11_7 r11_8 r11_9, zVi r11_3 k12 14 f12, zVi r11_8 k13 28 f13, zVi r11_9 k14 28 f14, zVi r1_2 k15 4 f15, zVi r1_3 k16 4 f16, zVi r11_5 k17 14 f17]) hP hK hD hS hA ⟨hx, hb, hml, hown, hts⟩ (zf_X7_errorOf l dC dI r0_1 h1 r0_0 r0_2 p2 r9_0 v9_1 v9_2 v1_0 r1_1 r1_2 r1_3 r1_4 v1_5 r1_6 r1_7 r1_8 v11_0 v11_1 r11_2 r11_3 r11_4 r11_5 r11_6 r11_7 r11_8 r11_9 v2_0 v2_1 v2_2 r2_3 r2_4 r2_5 k3 f3 k4 (upd f4 (f3 p2.toNatClampNeg).toNatClampNeg p3) k15 f15 k12 f12 k13 f13 k10 (vp_updL f10 p2.toNatClampNeg o_20) k14 f14 r5_0 r5_1 r5_2 k7 (vp_updL f7 p2.toNatClampNeg o_11) k8 (vp_updL f8 p2.toNatClampNeg o_16) o_34 hqo_34 H.size) ⟨hn1, trivial⟩ (cwV 4 hts gX0_whyNot_X7_errorOf rfl rfl rfl zhd_X7_errorOf ⟨Nat.le_of_ble_eq_true rfl, Nat.le_of_ble_eq_true rfl⟩) [9, 1, 11, 2, 3, 4, 15, 12, 13, 10, 14, 5, 7, 8] rfl (of_decide_eq_true rfl) [0, 1, 9, 6, 7, 5, 8, 3, 4] rfl rfl rfl rfl hl.1 rfl (Nat.le_of_ble_eq_true rfl) dX0_whyNot_206 ⟨Nat.le_of_ble_eq_true rfl, Nat.le_of_ble_eq_true rfl⟩ [none, some 1, some 3, some 4, some 5, some 11, none, some 12, some 13, some 0, some 9, some 2, some 7, some 8, some 10, some 6] (of_decide_eq_true rfl) (of_decide_eq_true rfl) rfl rfl rfl (fun H locs hP hD hS => ?_)
          refine W.lcmp hx hb dX0_whyNot_209 ?_
          refine lv_if_ge (tgt := 215) hx hb dX0_whyNot_210 (of_decide_eq_true rfl) (fun c_38 => ?_) (fun c_38 => ?_)
          · have hfn := (if_pos c_38).symm.trans hfn
            refine lv_aload_n hx hb dX0_whyNot_215 rfl (lv_at hl 4 rfl) ?_
            refine va_get (D := (dC, dI)) (ci := 0) (v := .ref r0_0) (C := RX0) (T := TX0) (N := 5) hx hb hts zn_X0_whyNot_X0 hown hK hP 0 rfl rfl 0 (of_decide_eq_true rfl) (hts (.fieldLink RX0 12 "ShortEnough$CertificateReader" "said" "LShortEnough$Ranges;") zw_X0_whyNot_21) (fun _ h9 => h9) rfl dX0_whyNot_216 ?_
            refine lv_iload_n hx hb dX0_whyNot_219 rfl (lv_at hl 6 rfl) ?_
            obtain ⟨o_39, hqo_39, hfn⟩ := zb_s hfn
            refine zcVl (ci := 6) (rest := []) (pc' := 223) (ws' := [zV0 h0 r0_0 r0_1 r0_2 v0_3 v0_4, zV9 h1 v1_0 r1_1 r1_2 r1_3 r1_4 v1_5 r1_6 r1_7 r1_8, zV2 r1_7 v2_0 v2_1 v2_2 r2_3 r2_4 r2_5, zVi r2_3 k3 14 f3, zVi r0_2 k4 14 (upd f4 (f3 p2.toNatClampNeg).toNatClampNeg p3), zV6 r0_0 r5_0 r5_1 r5_2, zVi h4 k6 1200 f6, zVl r5_0 k7 14 (vp_updL f7 p2.toNatClampNeg o_11), zVl r5_1 k8 14 (vp_updL f8 p2.toNatClampNeg o_16), zV7 r0_1 r9_0 v9_1 v9_2, zVl r9_0 k10 14 (vp_updL f10 p2.toNatClampNeg o_20), zV4 r1_6 v11_0 v11_1 r11_2 r11_3 r11_4 r11_5 r11_6 r11_7 r11_8 r11_9, zVi r11_3 k12 14 f12, zVi r11_8 k13 28 f13, zVi r11_9 k14 28 f14, zVi r1_2 k15 4 f15, zVi r1_3 k16 4 f16, zVi r11_5 k17 14 f17]) hP hK hD hS hA ⟨hx, hb, hml, hown, hts⟩ (zf_X6_amountOf l dC dI r0_0 p2 r5_0 r5_1 r5_2 k7 (vp_updL f7 p2.toNatClampNeg o_11) k8 (vp_updL f8 p2.toNatClampNeg o_16) o_39 hqo_39 H.size) (cwV 1 hts gX0_whyNot_X6_amountOf rfl rfl rfl zhd_X6_amountOf ⟨Nat.le_of_ble_eq_true rfl, Nat.le_of_ble_eq_true rfl⟩) [5, 7, 8] rfl (of_decide_eq_true rfl) [3, 4] rfl rfl rfl rfl hl.1 rfl (Nat.le_of_ble_eq_true rfl) dX0_whyNot_220 ⟨Nat.le_of_ble_eq_true rfl, Nat.le_of_ble_eq_true rfl⟩ [none, none, none, none, none, some 0, none, some 1, some 2] (of_decide_eq_true rfl) (of_decide_eq_true rfl) rfl rfl rfl (fun H locs hP hD hS => ?_)
            refine lv_lload hx hb dX0_whyNot_223 (lv_at hl 0 rfl) ?_
            refine lv_ladd hx hb dX0_whyNot_225 ?_
            refine lv_aload_n hx hb dX0_whyNot_226 rfl (lv_at hl 5 rfl) ?_
            refine lv_iload_n hx hb dX0_whyNot_227 rfl (lv_at hl 7 rfl) ?_
            obtain ⟨o_43, hqo_43, hfn⟩ := zb_s hfn
            refine zcVi (ci := 9) (rest := [.long (o_39 + ((vp_updL f10 p2.toNatClampNeg o_20) p2.toNatClampNeg))]) (pc' := 231) (ws' := [zV0 h0 r0_0 r0_1 r0_2 v0_3 v0_4, zV9 h1 v1_0 r1_1 r1_2 r1_3 r1_4 v1_5 r1_6 r1_7 r1_8, zV2 r1_7 v2_0 v2_1 v2_2 r2_3 r2_4 r2_5, zVi r2_3 k3 14 f3, zVi r0_2 k4 14 (upd f4 (f3 p2.toNatClampNeg).toNatClampNeg p3), zV6 r0_0 r5_0 r5_1 r5_2, zVi h4 k6 1200 f6, zVl r5_0 k7 14 (vp_updL f7 p2.toNatClampNeg o_11), zVl r5_1 k8 14 (vp_updL f8 p2.toNatClampNeg o_16), zV7 r0_1 r9_0 v9_1 v9_2, zVl r9_0 k10 14 (vp_updL f10 p2.toNatClampNeg o_20), zV4 r1_6 v11_0 v11_1 r11_2 r11_3 r11_4 r11_5 r11_6 r11_7 r11_8 r11_9, zVi r11_3 k12 14 f12, zVi r11_8 k13 28 f13, zVi r11_9 k14 28 f14, zVi r1_2 k15 4 f15, zVi r1_3 k16 4 f16, zVi r11_5 k17 14 f17]) hP hK hD hS hA ⟨hx, hb, hml, hown, hts⟩ (zf_X9_mostOf l dC dI h1 p3 v1_0 r1_1 r1_2 r1_3 r1_4 v1_5 r1_6 r1_7 r1_8 k16 f16 o_43 hqo_43 H.size) (cwV 1 hts gX0_whyNot_X9_mostOf rfl rfl rfl zhd_X9_mostOf ⟨Nat.le_of_ble_eq_true rfl, Nat.le_of_ble_eq_true rfl⟩) [1, 16] rfl (of_decide_eq_true rfl) [10] rfl rfl rfl rfl hl.1 rfl (Nat.le_of_ble_eq_true rfl) dX0_whyNot_228 ⟨Nat.le_of_ble_eq_true rfl, Nat.le_of_ble_eq_true rfl⟩ [none, some 0, none, none, none, none, none, none, none, none, none, none, none, none, none, none, some 1] (of_decide_eq_true rfl) (of_decide_eq_true rfl) rfl rfl rfl (fun H locs hP hD hS => ?_)
            refine lv_i2l (v := o_43.toInt64) hx hb dX0_whyNot_231 rfl ?_
            refine W.lcmp hx hb dX0_whyNot_232 ?_
            refine lv_if_le (tgt := 238) hx hb dX0_whyNot_233 (of_decide_eq_true rfl) (fun c_47 => ?_) (fun c_47 => ?_)
            · have hfn := (if_pos c_47).symm.trans hfn
              refine lv_aload_n hx hb dX0_whyNot_238 rfl (lv_at hl 5 rfl) ?_
              refine lv_iload_n hx hb dX0_whyNot_239 rfl (lv_at hl 6 rfl) ?_
              obtain ⟨o_48, hqo_48, hfn⟩ := zb_s hfn
              refine zcVb (ci := 9) (rest := []) (pc' := 243) (ws' := [zV0 h0 r0_0 r0_1 r0_2 v0_3 v0_4, zV9 h1 v1_0 r1_1 r1_2 r1_3 r1_4 v1_5 r1_6 r1_7 r1_8, zV2 r1_7 v2_0 v2_1 v2_2 r2_3 r2_4 r2_5, zVi r2_3 k3 14 f3, zVi r0_2 k4 14 (upd f4 (f3 p2.toNatClampNeg).toNatClampNeg p3), zV6 r0_0 r5_0 r5_1 r5_2, zVi h4 k6 1200 f6, zVl r5_0 k7 14 (vp_updL f7 p2.toNatClampNeg o_11), zVl r5_1 k8 14 (vp_updL f8 p2.toNatClampNeg o_16), zV7 r0_1 r9_0 v9_1 v9_2, zVl r9_0 k10 14 (vp_updL f10 p2.toNatClampNeg o_20), zV4 r1_6 v11_0 v11_1 r11_2 r11_3 r11_4 r11_5 r11_6 r11_7 r11_8 r11_9, zVi r11_3 k12 14 f12, zVi r11_8 k13 28 f13, zVi r11_9 k14 28 f14, zVi r1_2 k15 4 f15, zVi r1_3 k16 4 f16, zVi r11_5 k17 14 f17]) hP hK hD hS hA ⟨hx, hb, hml, hown, hts⟩ (zf_X9_isAnswer l dC dI h1 p2 v1_0 r1_1 r1_2 r1_3 r1_4 v1_5 r1_6 r1_7 r1_8 v11_0 v11_1 r11_2 r11_3 r11_4 r11_5 r11_6 r11_7 r11_8 r11_9 k17 f17 o_48 hqo_48 H.size) (cwV 1 hts gX0_whyNot_X9_isAnswer rfl rfl rfl zhd_X9_isAnswer ⟨Nat.le_of_ble_eq_true rfl, Nat.le_of_ble_eq_true rfl⟩) [1, 11, 17] rfl (of_decide_eq_true rfl) [11] rfl rfl rfl rfl hl.1 rfl (Nat.le_of_ble_eq_true rfl) dX0_whyNot_240 ⟨Nat.le_of_ble_eq_true rfl, Nat.le_of_ble_eq_true rfl⟩ [none, some 0, none, none, none, none, none, none, none, none, none, some 1, none, none, none, none, none, some 2] (of_decide_eq_true rfl) (of_decide_eq_true rfl) rfl rfl rfl (fun H locs hw_51n hP hD hS => ?_)
              refine lv_if_eq (tgt := 267) hx hb dX0_whyNot_243 (of_decide_eq_true rfl) (fun c_52 => ?_) (fun c_52 => ?_)
              · have hfn := (if_pos c_52).symm.trans hfn
                refine lv_iconst (v := 0) hx hb dX0_whyNot_267 zci_0 ?_
                have ho := Option.some.inj hfn
                subst ho
                exact zri hx hb hr hK hP hD hS hQ rfl hlocks dX0_whyNot_268
              have hfn := (if_neg c_52).symm.trans hfn
              refine lv_lload hx hb dX0_whyNot_246 (lv_at hl 0 rfl) ?_
              refine lv_aload_n hx hb dX0_whyNot_248 rfl (lv_at hl 5 rfl) ?_
              refine va_get (D := (dC, dI)) (ci := 9) (v := .ref r1_6) (C := RX9) (T := TX9) (N := 9) hx hb hts zn_X0_whyNot_X9 hown hK hP 1 rfl rfl 6 (of_decide_eq_true rfl) (hts (.fieldLink RX0 39 "ShortEnough$Task" "numbers" "LShortEnough$Numbers;") zw_X0_whyNot_37) (fun _ h9 => h9) rfl dX0_whyNot_249 ?_
              refine va_get (D := (dC, dI)) (ci := 4) (v := .ref r11_5) (C := RX4) (T := TX4) (N := 10) hx hb hts zn_X0_whyNot_X4 hown hK hP 11 rfl rfl 5 (of_decide_eq_true rfl) (hts (.fieldLink RX0 107 "ShortEnough$Numbers" "allowed" "[I") zw_X0_whyNot_140) (fun _ h9 => h9) rfl dX0_whyNot_252 ?_
              refine lv_iload_n hx hb dX0_whyNot_255 rfl (lv_at hl 6 rfl) ?_
              refine va_iald hx hb hK hP 17 11 rfl rfl h_15 dX0_whyNot_256 ?_
              refine lv_i2l (v := (f17 p2.toNatClampNeg).toInt64) hx hb dX0_whyNot_257 rfl ?_
              refine W.lcmp hx hb dX0_whyNot_258 ?_
              refine lv_if_le (tgt := 267) hx hb dX0_whyNot_259 (of_decide_eq_true rfl) (fun c_53 => ?_) (fun c_53 => ?_)
              · have hfn := (if_pos c_53).symm.trans hfn
                refine lv_iconst (v := 0) hx hb dX0_whyNot_267 zci_0 ?_
                have ho := Option.some.inj hfn
                subst ho
                exact zri hx hb hr hK hP hD hS hQ rfl hlocks dX0_whyNot_268
              have hfn := (if_neg c_53).symm.trans hfn
              refine lv_bipush (v := 6) hx hb dX0_whyNot_262 zcb_6 ?_
              refine lv_goto (tgt := 268) hx hb dX0_whyNot_264 (of_decide_eq_true rfl) ?_
              have ho := Option.some.inj hfn
              subst ho
              exact zri hx hb hr hK hP hD hS hQ rfl hlocks dX0_whyNot_268
            have hfn := (if_neg c_47).symm.trans hfn
            refine lv_iconst (v := 5) hx hb dX0_whyNot_236 zci_5 ?_
            have ho := Option.some.inj hfn
            subst ho
            exact zri hx hb hr hK hP hD hS hQ rfl hlocks dX0_whyNot_237
          have hfn := (if_neg c_38).symm.trans hfn
          refine lv_iconst (v := 4) hx hb dX0_whyNot_213 zci_4 ?_
          have ho := Option.some.inj hfn
          subst ho
          exact zri hx hb hr hK hP hD hS hQ rfl hlocks dX0_whyNot_214
        have hfn := (if_neg c_33).symm.trans hfn
        refine lv_iconst (v := 3) hx hb dX0_whyNot_177 zci_3 ?_
        have ho := Option.some.inj hfn
        subst ho
        exact zri hx hb hr hK hP hD hS hQ rfl hlocks dX0_whyNot_178
      have hfn := (if_neg c_28).symm.trans hfn
      refine lv_iconst (v := 2) hx hb dX0_whyNot_150 zci_2 ?_
      have ho := Option.some.inj hfn
      subst ho
      exact zri hx hb hr hK hP hD hS hQ rfl hlocks dX0_whyNot_151
    have hfn := (if_pos c_9).symm.trans hfn
    refine lv_iconst (v := 1) hx hb dX0_whyNot_53 zci_1 ?_
    have ho := Option.some.inj hfn
    subst ho
    exact zri hx hb hr hK hP hD hS hQ rfl hlocks dX0_whyNot_54
  obtain ⟨j_54, ej_54, hfn⟩ := zj_g hfn
  have jp_54 : ∀ (s_54 : Unit) (H : Heap) (locs : List Loc) (ls : Array Slot), j_54 s_54 = some o → va_P (dC, dI) vwCl [zV0 h0 r0_0 r0_1 r0_2 v0_3 v0_4, zV9 h1 v1_0 r1_1 r1_2 r1_3 r1_4 v1_5 r1_6 r1_7 r1_8, zV2 r1_7 v2_0 v2_1 v2_2 r2_3 r2_4 r2_5, zVi r2_3 k3 14 f3, zVi r0_2 k4 14 f4, zV6 r0_0 r5_0 r5_1 r5_2, zVi h4 k6 1200 f6, zVl r5_0 k7 14 f7, zVl r5_1 k8 14 f8, zV7 r0_1 r9_0 v9_1 v9_2, zVl r9_0 k10 14 f10, zV4 r1_6 v11_0 v11_1 r11_2 r11_3 r11_4 r11_5 r11_6 r11_7 r11_8 r11_9, zVi r11_3 k12 14 f12, zVi r11_8 k13 28 f13, zVi r11_9 k14 28 f14, zVi r1_2 k15 4 f15, zVi r1_3 k16 4 f16, zVi r11_5 k17 14 f17] H → va_D A [zV0 h0 r0_0 r0_1 r0_2 v0_3 v0_4, zV9 h1 v1_0 r1_1 r1_2 r1_3 r1_4 v1_5 r1_6 r1_7 r1_8, zV2 r1_7 v2_0 v2_1 v2_2 r2_3 r2_4 r2_5, zVi r2_3 k3 14 f3, zVi r0_2 k4 14 f4, zV6 r0_0 r5_0 r5_1 r5_2, zVi h4 k6 1200 f6, zVl r5_0 k7 14 f7, zVl r5_1 k8 14 f8, zV7 r0_1 r9_0 v9_1 v9_2, zVl r9_0 k10 14 f10, zV4 r1_6 v11_0 v11_1 r11_2 r11_3 r11_4 r11_5 r11_6 r11_7 r11_8 r11_9, zVi r11_3 k12 14 f12, zVi r11_8 k13 28 f13, zVi r11_9 k14 28 f14, zVi r1_2 k15 4 f15, zVi r1_3 k16 4 f16, zVi r11_5 k17 14 f17] → va_S A s.heap H locs → lv_has ls 10 [(5, .int (f3 p2.toNatClampNeg)), (0, .ref h0), (1, .ref h1), (2, .int p2), (3, .int p3), (4, .ref h4)] → W p l e (headSpec wsX0_whyNot ({ frames := 5, cells := 0, slots := 0, locals := 134 })).room s m ([.ref h0, .ref h1, .int p2, .int p3, .ref h4] : List Value).toArray below meth c H locs 0 0 Q (F0 m 33 ls []) := by
    intro s_54 H locs ls hfn hP hD hS hl
    have hfn := zj_s ej_54 hfn
    refine lv_iconst (v := 1) hx hb dX0_whyNot_33 zci_1 ?_
    refine lv_goto (tgt := 38) hx hb dX0_whyNot_34 (of_decide_eq_true rfl) ?_
    exact jp_3 1 H locs ls hfn hP hD hS (lv_sub hl [0, 1, 2, 3, 4, 5] rfl)
  refine lv_icmp_eq (tgt := 33) hx hb dX0_whyNot_19 (of_decide_eq_true rfl) (fun c_55 => ?_) (fun c_55 => ?_)
  · have hfn := (if_pos c_55).symm.trans hfn
    exact jp_54 () s.heap [] ls hfn hP hD hS (lv_sub hl [0, 1, 2, 3, 4, 5] rfl)
  have hfn := (if_neg c_55).symm.trans hfn
  refine lv_aload_n hx hb dX0_whyNot_22 rfl (lv_at hl 1 rfl) ?_
  refine va_get (D := (dC, dI)) (ci := 0) (v := .ref r0_2) (C := RX0) (T := TX0) (N := 5) hx hb hts zn_X0_whyNot_X0 hown hK hP 0 rfl rfl 2 (of_decide_eq_true rfl) (hts (.fieldLink RX0 25 "ShortEnough$CertificateReader" "choice" "[I") zw_X0_whyNot_18) (fun _ h9 => h9) rfl dX0_whyNot_23 ?_
  refine lv_iload hx hb dX0_whyNot_26 (lv_at hl 0 rfl) ?_
  refine va_iald hx hb hK hP 4 1 rfl rfl h_2 dX0_whyNot_28 ?_
  refine lv_iload_n hx hb dX0_whyNot_29 rfl (lv_at hl 4 rfl) ?_
  refine lv_icmp_ne (tgt := 37) hx hb dX0_whyNot_30 (of_decide_eq_true rfl) (fun c_56 => ?_) (fun c_56 => ?_)
  · have hfn := (if_neg c_56).symm.trans hfn
    refine lv_iconst (v := 0) hx hb dX0_whyNot_37 zci_0 ?_
    exact jp_3 0 s.heap [] ls hfn hP hD hS (lv_sub hl [0, 1, 2, 3, 4, 5] rfl)
  have hfn := (if_pos c_56).symm.trans hfn
  exact jp_54 () s.heap [] ls hfn hP hD hS (lv_sub hl [0, 1, 2, 3, 4, 5] rfl)
theorem zn_X0_holds_X9 : ∀ w ∈ wsX90, w ∈ wsX0_holds := fun _ h => List.mem_cons_of_mem _ (List.mem_append_left _ (List.mem_append_left _ (List.mem_append_left _ (List.mem_append_left _ (List.mem_append_left _ (List.mem_append_right _ h))))))
theorem zw_X0_holds_4 : Cond.fieldLink RX0 39 "ShortEnough$Task" "numbers" "LShortEnough$Numbers;" ∈ wsX0_holds := List.mem_of_getElem? (i := 1) (by decide +kernel)
theorem zn_X0_holds_X4 : ∀ w ∈ wsX40, w ∈ wsX0_holds := fun _ h => List.mem_cons_of_mem _ (List.mem_append_left _ (List.mem_append_left _ (List.mem_append_left _ (List.mem_append_left _ (List.mem_append_right _ h)))))
theorem zw_X0_holds_6 : Cond.fieldLink RX0 45 "ShortEnough$Numbers" "count" "I" ∈ wsX0_holds := List.mem_of_getElem? (i := 2) (by decide +kernel)
theorem zw_X0_holds_7 : Cond.fieldLink RX0 50 "ShortEnough$Task" "groups" "LShortEnough$Groups;" ∈ wsX0_holds := List.mem_of_getElem? (i := 3) (by decide +kernel)
theorem zn_X0_holds_X0 : ∀ w ∈ wsX00, w ∈ wsX0_holds := fun _ h => List.mem_cons_of_mem _ (List.mem_append_left _ (List.mem_append_left _ (List.mem_append_left _ (List.mem_append_right _ h))))
theorem zw_X0_holds_9 : Cond.fieldLink RX0 25 "ShortEnough$CertificateReader" "choice" "[I" ∈ wsX0_holds := List.mem_of_getElem? (i := 4) (by decide +kernel)
theorem zw_X0_holds_141 : Cond.fieldLink RX0 29 "ShortEnough$CertificateReader" "breaksAt" "I" ∈ wsX0_holds := List.mem_of_getElem? (i := 5) (by decide +kernel)
theorem zw_X0_holds_142 : Cond.fieldLink RX0 33 "ShortEnough$CertificateReader" "reason" "I" ∈ wsX0_holds := List.mem_of_getElem? (i := 6) (by decide +kernel)
set_option maxHeartbeats 4000000 in
set_option maxRecDepth 100000 in
theorem zf_X0_holds (l : Launch) (dC : Nat → ClassId) (dI : Nat → Nat → Nat) (h0 : Nat) (h1 : Nat) (p2 : Int32) (h3 : Nat) (r0_0 : Nat) (r0_1 : Nat) (r0_2 : Nat) (v0_3 : Int32) (v0_4 : Int32) (v1_0 : Int32) (r1_1 : Nat) (r1_2 : Nat) (r1_3 : Nat) (r1_4 : Nat) (v1_5 : Int32) (r1_6 : Nat) (r1_7 : Nat) (r1_8 : Nat) (v2_0 : Int32) (v2_1 : Int32) (r2_2 : Nat) (r2_3 : Nat) (r2_4 : Nat) (r2_5 : Nat) (r2_6 : Nat) (r2_7 : Nat) (r2_8 : Nat) (r2_9 : Nat) (k3 : Nat) (f3 : Nat → Int32) (v4_0 : Int32) (v4_1 : Int32) (v4_2 : Int32) (r4_3 : Nat) (r4_4 : Nat) (r4_5 : Nat) (k5 : Nat) (f5 : Nat → Int32) (k6 : Nat) (f6 : Nat → Int32) (k7 : Nat) (f7 : Nat → Int32) (r8_0 : Nat) (r8_1 : Nat) (r8_2 : Nat) (k9 : Nat) (f9 : Nat → Int64) (k10 : Nat) (f10 : Nat → Int64) (r11_0 : Nat) (v11_1 : Int32) (v11_2 : Int32) (k12 : Nat) (f12 : Nat → Int64) (k13 : Nat) (f13 : Nat → Int32) (k14 : Nat) (f14 : Nat → Int32) (k15 : Nat) (f15 : Nat → Int32) (k16 : Nat) (f16 : Nat → Int32) (k17 : Nat) (f17 : Nat → Int32) (k18 : Nat) (f18 : Nat → Int32) (o : Int32 × Int32 × Int32 × (Nat → Int32) × (Nat → Int64) × (Nat → Int64) × (Nat → Int64)) (hfn : fn_X0_holds p2 v1_0 v2_0 f3 v4_0 f5 f6 f7 f9 f10 f12 f13 f14 f15 f16 f17 f18 = some o) (sz : Nat) : zNi [(RX6, 83, yX11_apply, RX11), (RX7, 90, yX11_divides, RX11)] l yX0_holds wsX0_holds ({ frames := 6, cells := 0, slots := 0, locals := 163 }) (dC, dI) vwCl [.ref h0, .ref h1, .int p2, .ref h3] [zV0 h0 r0_0 r0_1 r0_2 v0_3 v0_4, zV9 h3 v1_0 r1_1 r1_2 r1_3 r1_4 v1_5 r1_6 r1_7 r1_8, zV4 r1_6 v2_0 v2_1 r2_2 r2_3 r2_4 r2_5 r2_6 r2_7 r2_8 r2_9, zVi h1 k3 1200 f3, zV2 r1_7 v4_0 v4_1 v4_2 r4_3 r4_4 r4_5, zVi r0_2 k5 14 f5, zVi r4_4 k6 14 f6, zVi r4_3 k7 14 f7, zV6 r0_0 r8_0 r8_1 r8_2, zVl r8_0 k9 14 f9, zVl r8_1 k10 14 f10, zV7 r0_1 r11_0 v11_1 v11_2, zVl r11_0 k12 14 f12, zVi r2_3 k13 14 f13, zVi r2_8 k14 28 f14, zVi r2_9 k15 28 f15, zVi r1_2 k16 4 f16, zVi r1_3 k17 4 f17, zVi r2_5 k18 14 f18] [(k3, .byte), (k5, .int), (k6, .int), (k7, .int), (k9, .long), (k10, .long), (k12, .long), (k13, .int), (k14, .int), (k15, .int), (k16, .int), (k17, .int), (k18, .int)] (fun r _ => r = o.1 ∧ narrow .boolean (.int o.1) = .int o.1) [zV0 h0 r0_0 r0_1 r0_2 o.2.1 o.2.2.1, zV9 h3 v1_0 r1_1 r1_2 r1_3 r1_4 v1_5 r1_6 r1_7 r1_8, zV4 r1_6 v2_0 v2_1 r2_2 r2_3 r2_4 r2_5 r2_6 r2_7 r2_8 r2_9, zVi h1 k3 1200 f3, zV2 r1_7 v4_0 v4_1 v4_2 r4_3 r4_4 r4_5, zVi r0_2 k5 14 o.2.2.2.1, zVi r4_4 k6 14 f6, zVi r4_3 k7 14 f7, zV6 r0_0 r8_0 r8_1 r8_2, zVl r8_0 k9 14 o.2.2.2.2.1, zVl r8_1 k10 14 o.2.2.2.2.2.1, zV7 r0_1 r11_0 v11_1 v11_2, zVl r11_0 k12 14 o.2.2.2.2.2.2, zVi r2_3 k13 14 f13, zVi r2_8 k14 28 f14, zVi r2_9 k15 28 f15, zVi r1_2 k16 4 f16, zVi r1_3 k17 4 f17, zVi r2_5 k18 14 f18] [(k3, .byte), (k5, .int), (k6, .int), (k7, .int), (k9, .long), (k10, .long), (k12, .long), (k13, .int), (k14, .int), (k15, .int), (k16, .int), (k17, .int), (k18, .int)] sz := by
  refine zgoNi (cc := cX0_holds) (maxL := 8) (ret := (some .boolean)) (C0 := RX0) (lv0 := [(0, .ref h0), (1, .ref h1), (2, .int p2), (3, .ref h3)]) zpl_X0 rfl rfl rfl (Nat.le_of_ble_eq_true rfl) ?_
  intro p e s m below meth c A ls Q hN hx hb hr hts hown hlocks hml hP hK hD hA hS hl hQ
  have hn0 : va_Nw (.methodLinkNest RX6 83 yX11_apply RX11) s := hN.1
  have hn1 : va_Nw (.methodLinkNest RX7 90 yX11_divides RX11) s := hN.2.1
  unfold fn_X0_holds at hfn
  refine lv_aload_n hx hb dX0_holds_0 rfl (lv_at hl 0 rfl) ?_
  obtain ⟨o_1, hqo_1, hfn⟩ := zb_s hfn
  refine zcVv (ci := 0) (rest := []) (pc' := 4) (ws' := [zV0 h0 r0_0 r0_1 r0_2 o_1.1 o_1.2, zV9 h3 v1_0 r1_1 r1_2 r1_3 r1_4 v1_5 r1_6 r1_7 r1_8, zV4 r1_6 v2_0 v2_1 r2_2 r2_3 r2_4 r2_5 r2_6 r2_7 r2_8 r2_9, zVi h1 k3 1200 f3, zV2 r1_7 v4_0 v4_1 v4_2 r4_3 r4_4 r4_5, zVi r0_2 k5 14 f5, zVi r4_4 k6 14 f6, zVi r4_3 k7 14 f7, zV6 r0_0 r8_0 r8_1 r8_2, zVl r8_0 k9 14 f9, zVl r8_1 k10 14 f10, zV7 r0_1 r11_0 v11_1 v11_2, zVl r11_0 k12 14 f12, zVi r2_3 k13 14 f13, zVi r2_8 k14 28 f14, zVi r2_9 k15 28 f15, zVi r1_2 k16 4 f16, zVi r1_3 k17 4 f17, zVi r2_5 k18 14 f18]) hP hK hD hS hA ⟨hx, hb, hml, hown, hts⟩ (zf_X0_forget l dC dI h0 r0_0 r0_1 r0_2 v0_3 v0_4 o_1 hqo_1 s.heap.size) (cwV 0 hts gX0_holds_X0_forget rfl rfl rfl zhd_X0_forget ⟨Nat.le_of_ble_eq_true rfl, Nat.le_of_ble_eq_true rfl⟩) [0] rfl (of_decide_eq_true rfl) [] rfl rfl rfl rfl hl.1 rfl (Nat.le_of_ble_eq_true rfl) dX0_holds_1 ⟨Nat.le_of_ble_eq_true rfl, Nat.le_of_ble_eq_true rfl⟩ [some 0] (of_decide_eq_true rfl) (of_decide_eq_true rfl) rfl rfl rfl (fun H locs hP hD hS => ?_)
  refine lv_aload_n hx hb dX0_holds_4 rfl (lv_at hl 3 rfl) ?_
  refine va_get (D := (dC, dI)) (ci := 9) (v := .ref r1_6) (C := RX9) (T := TX9) (N := 9) hx hb hts zn_X0_holds_X9 hown hK hP 1 rfl rfl 6 (of_decide_eq_true rfl) (hts (.fieldLink RX0 39 "ShortEnough$Task" "numbers" "LShortEnough$Numbers;") zw_X0_holds_4) (fun _ h9 => h9) rfl dX0_holds_5 ?_
  refine va_get (D := (dC, dI)) (ci := 4) (v := .int v2_0) (C := RX4) (T := TX4) (N := 10) hx hb hts zn_X0_holds_X4 hown hK hP 2 rfl rfl 0 (of_decide_eq_true rfl) (hts (.fieldLink RX0 45 "ShortEnough$Numbers" "count" "I") zw_X0_holds_6) (fun _ h9 => h9) rfl dX0_holds_8 ?_
  refine lv_istore (lv' := [(4, .int v2_0), (0, .ref h0), (1, .ref h1), (2, .int p2), (3, .ref h3)]) hx hb dX0_holds_11 hl (of_decide_eq_true rfl) rfl (fun ls hl => ?_)
  refine lv_iload hx hb dX0_holds_13 (lv_at hl 0 rfl) ?_
  refine lv_if_eq (tgt := 33) hx hb dX0_holds_15 (of_decide_eq_true rfl) (fun c_5 => ?_) (fun c_5 => ?_)
  · have hfn := (if_pos c_5).symm.trans hfn
    refine lv_iconst (v := 0) hx hb dX0_holds_33 zci_0 ?_
    have ho := Option.some.inj hfn
    subst ho
    exact zrz hx hb hr rfl hK hP hD hS hQ ⟨rfl, zB0⟩ hlocks dX0_holds_34
  have hfn := (if_neg c_5).symm.trans hfn
  refine lv_iload_n hx hb dX0_holds_18 rfl (lv_at hl 3 rfl) ?_
  refine lv_bipush (v := 25) hx hb dX0_holds_19 zcb_25 ?_
  refine lv_iload hx hb dX0_holds_21 (lv_at hl 0 rfl) ?_
  refine lv_imul hx hb dX0_holds_23 ?_
  refine lv_icmp_ne (tgt := 33) hx hb dX0_holds_24 (of_decide_eq_true rfl) (fun c_6 => ?_) (fun c_6 => ?_)
  · have hfn := (if_neg c_6).symm.trans hfn
    refine lv_iconst (v := 0) hx hb dX0_holds_33 zci_0 ?_
    have ho := Option.some.inj hfn
    subst ho
    exact zrz hx hb hr rfl hK hP hD hS hQ ⟨rfl, zB0⟩ hlocks dX0_holds_34
  have hfn := (if_pos c_6).symm.trans hfn
  refine lv_iload_n hx hb dX0_holds_27 rfl (lv_at hl 3 rfl) ?_
  refine lv_aload_n hx hb dX0_holds_28 rfl (lv_at hl 2 rfl) ?_
  refine va_alen (v := 1200) hx hb hK hP 3 0 rfl rfl (show Int32.ofNat 1200 = 1200 by decide +kernel) dX0_holds_29 ?_
  refine lv_icmp_le (tgt := 35) hx hb dX0_holds_30 (of_decide_eq_true rfl) (fun c_7 => ?_) (fun c_7 => ?_)
  · have hfn := (if_pos c_7).symm.trans hfn
    refine lv_aload_n hx hb dX0_holds_35 rfl (lv_at hl 4 rfl) ?_
    refine va_get (D := (dC, dI)) (ci := 9) (v := .ref r1_7) (C := RX9) (T := TX9) (N := 9) hx hb hts zn_X0_holds_X9 hown hK hP 1 rfl rfl 7 (of_decide_eq_true rfl) (hts (.fieldLink RX0 50 "ShortEnough$Task" "groups" "LShortEnough$Groups;") zw_X0_holds_7) (fun _ h9 => h9) rfl dX0_holds_36 ?_
    refine lv_aload_n hx hb dX0_holds_39 rfl (lv_at hl 1 rfl) ?_
    refine va_get (D := (dC, dI)) (ci := 0) (v := .ref r0_2) (C := RX0) (T := TX0) (N := 5) hx hb hts zn_X0_holds_X0 hown hK hP 0 rfl rfl 2 (of_decide_eq_true rfl) (hts (.fieldLink RX0 25 "ShortEnough$CertificateReader" "choice" "[I") zw_X0_holds_9) (fun _ h9 => h9) rfl dX0_holds_40 ?_
    refine lv_iconst (v := (-1)) hx hb dX0_holds_43 zci_m1 ?_
    obtain ⟨o_8, hqo_8, hfn⟩ := zb_s hfn
    refine zcVv (ci := 2) (rest := []) (pc' := 47) (ws' := [zV0 h0 r0_0 r0_1 r0_2 o_1.1 o_1.2, zV9 h3 v1_0 r1_1 r1_2 r1_3 r1_4 v1_5 r1_6 r1_7 r1_8, zV4 r1_6 v2_0 v2_1 r2_2 r2_3 r2_4 r2_5 r2_6 r2_7 r2_8 r2_9, zVi h1 k3 1200 f3, zV2 r1_7 v4_0 v4_1 v4_2 r4_3 r4_4 r4_5, zVi r0_2 k5 14 o_8, zVi r4_4 k6 14 f6, zVi r4_3 k7 14 f7, zV6 r0_0 r8_0 r8_1 r8_2, zVl r8_0 k9 14 f9, zVl r8_1 k10 14 f10, zV7 r0_1 r11_0 v11_1 v11_2, zVl r11_0 k12 14 f12, zVi r2_3 k13 14 f13, zVi r2_8 k14 28 f14, zVi r2_9 k15 28 f15, zVi r1_2 k16 4 f16, zVi r1_3 k17 4 f17, zVi r2_5 k18 14 f18]) hP hK hD hS hA ⟨hx, hb, hml, hown, hts⟩ (zf_X2_fillFree l dC dI r1_7 r0_2 (-1) v4_0 v4_1 v4_2 r4_3 r4_4 r4_5 k5 f5 k6 f6 o_8 hqo_8 H.size) (cwV 2 hts gX0_holds_X2_fillFree rfl rfl rfl zhd_X2_fillFree ⟨Nat.le_of_ble_eq_true rfl, Nat.le_of_ble_eq_true rfl⟩) [4, 5, 6] rfl (of_decide_eq_true rfl) [1, 2] rfl rfl rfl rfl hl.1 rfl (Nat.le_of_ble_eq_true rfl) dX0_holds_44 ⟨Nat.le_of_ble_eq_true rfl, Nat.le_of_ble_eq_true rfl⟩ [none, none, none, none, some 0, some 1, some 2] (of_decide_eq_true rfl) (of_decide_eq_true rfl) rfl rfl rfl (fun H locs hP hD hS => ?_)
    refine lv_iconst (v := 0) hx hb dX0_holds_47 zci_0 ?_
    refine lv_istore (lv' := [(5, .int 0), (4, .int v2_0), (0, .ref h0), (1, .ref h1), (2, .int p2), (3, .ref h3)]) hx hb dX0_holds_48 hl (of_decide_eq_true rfl) rfl (fun ls hl => ?_)
    obtain ⟨bd_12, ebd_12, hfn⟩ := zl_g hfn
    have lp_12 : ∀ (n : Nat) (s_12 : Int32 × (Nat → Int32) × (Nat → Int64) × (Nat → Int64) × (Nat → Int64)) (H : Heap) (locs : List Loc) (ls : Array Slot), zl bd_12 n s_12 = some o → va_P (dC, dI) vwCl [zV0 h0 r0_0 r0_1 r0_2 o_1.1 o_1.2, zV9 h3 v1_0 r1_1 r1_2 r1_3 r1_4 v1_5 r1_6 r1_7 r1_8, zV4 r1_6 v2_0 v2_1 r2_2 r2_3 r2_4 r2_5 r2_6 r2_7 r2_8 r2_9, zVi h1 k3 1200 f3, zV2 r1_7 v4_0 v4_1 v4_2 r4_3 r4_4 r4_5, zVi r0_2 k5 14 s_12.2.1, zVi r4_4 k6 14 f6, zVi r4_3 k7 14 f7, zV6 r0_0 r8_0 r8_1 r8_2, zVl r8_0 k9 14 s_12.2.2.2.1, zVl r8_1 k10 14 s_12.2.2.2.2, zV7 r0_1 r11_0 v11_1 v11_2, zVl r11_0 k12 14 s_12.2.2.1, zVi r2_3 k13 14 f13, zVi r2_8 k14 28 f14, zVi r2_9 k15 28 f15, zVi r1_2 k16 4 f16, zVi r1_3 k17 4 f17, zVi r2_5 k18 14 f18] H → va_D A [zV0 h0 r0_0 r0_1 r0_2 o_1.1 o_1.2, zV9 h3 v1_0 r1_1 r1_2 r1_3 r1_4 v1_5 r1_6 r1_7 r1_8, zV4 r1_6 v2_0 v2_1 r2_2 r2_3 r2_4 r2_5 r2_6 r2_7 r2_8 r2_9, zVi h1 k3 1200 f3, zV2 r1_7 v4_0 v4_1 v4_2 r4_3 r4_4 r4_5, zVi r0_2 k5 14 s_12.2.1, zVi r4_4 k6 14 f6, zVi r4_3 k7 14 f7, zV6 r0_0 r8_0 r8_1 r8_2, zVl r8_0 k9 14 s_12.2.2.2.1, zVl r8_1 k10 14 s_12.2.2.2.2, zV7 r0_1 r11_0 v11_1 v11_2, zVl r11_0 k12 14 s_12.2.2.1, zVi r2_3 k13 14 f13, zVi r2_8 k14 28 f14, zVi r2_9 k15 28 f15, zVi r1_2 k16 4 f16, zVi r1_3 k17 4 f17, zVi r2_5 k18 14 f18] → va_S A s.heap H locs → lv_has ls 8 [(5, .int s_12.1), (4, .int v2_0), (0, .ref h0), (1, .ref h1), (3, .ref h3)] → W p l e (headSpec wsX0_holds ({ frames := 6, cells := 0, slots := 0, locals := 163 })).room s m ([.ref h0, .ref h1, .int p2, .ref h3] : List Value).toArray below meth c H locs 0 0 Q (F0 m 50 ls []) := by
      intro n
      induction n with
      | zero => exact fun _ _ _ _ hfn => (zl_0 hfn).elim
      | succ n ih_12 =>
        intro s_12 H locs ls hfn hP hD hS hl
        have hfn := zl_s ebd_12 hfn
        refine lv_iload hx hb dX0_holds_50 (lv_at hl 0 rfl) ?_
        refine lv_iload hx hb dX0_holds_52 (lv_at hl 1 rfl) ?_
        refine lv_icmp_ge (tgt := 107) hx hb dX0_holds_54 (of_decide_eq_true rfl) (fun c_13 => ?_) (fun c_13 => ?_)
        · have hfn := (if_pos c_13).symm.trans hfn
          refine lv_aload_n hx hb dX0_holds_107 rfl (lv_at hl 2 rfl) ?_
          refine lv_bipush (v := (-2)) hx hb dX0_holds_108 zcb_m2 ?_
          refine va_put (D := (dC, dI)) (ci := 0) (v := .int (-2)) (ty := .int) (C := RX0) (T := TX0) (N := 5) hx hb hts zn_X0_holds_X0 tyX0 tyX0_ok nmX0 hown hK hP hD hS 0 rfl rfl 3 (of_decide_eq_true rfl) (hts (.fieldLink RX0 29 "ShortEnough$CertificateReader" "breaksAt" "I") zw_X0_holds_141) (fun _ h9 => h9) rfl (tyX0_ok 3 (of_decide_eq_true rfl)) rfl rfl (Nat.le_of_ble_eq_true rfl) dX0_holds_110 (fun H locs hP hD hS => ?_)
          have hP : va_P (dC, dI) vwCl [zV0 h0 r0_0 r0_1 r0_2 (-2) o_1.2, zV9 h3 v1_0 r1_1 r1_2 r1_3 r1_4 v1_5 r1_6 r1_7 r1_8, zV4 r1_6 v2_0 v2_1 r2_2 r2_3 r2_4 r2_5 r2_6 r2_7 r2_8 r2_9, zVi h1 k3 1200 f3, zV2 r1_7 v4_0 v4_1 v4_2 r4_3 r4_4 r4_5, zVi r0_2 k5 14 s_12.2.1, zVi r4_4 k6 14 f6, zVi r4_3 k7 14 f7, zV6 r0_0 r8_0 r8_1 r8_2, zVl r8_0 k9 14 s_12.2.2.2.1, zVl r8_1 k10 14 s_12.2.2.2.2, zV7 r0_1 r11_0 v11_1 v11_2, zVl r11_0 k12 14 s_12.2.2.1, zVi r2_3 k13 14 f13, zVi r2_8 k14 28 f14, zVi r2_9 k15 28 f15, zVi r1_2 k16 4 f16, zVi r1_3 k17 4 f17, zVi r2_5 k18 14 f18] H := hP
          have hD := zDW hD hP rfl
          refine lv_aload_n hx hb dX0_holds_113 rfl (lv_at hl 2 rfl) ?_
          refine lv_iconst (v := 0) hx hb dX0_holds_114 zci_0 ?_
          refine va_put (D := (dC, dI)) (ci := 0) (v := .int 0) (ty := .int) (C := RX0) (T := TX0) (N := 5) hx hb hts zn_X0_holds_X0 tyX0 tyX0_ok nmX0 hown hK hP hD hS 0 rfl rfl 4 (of_decide_eq_true rfl) (hts (.fieldLink RX0 33 "ShortEnough$CertificateReader" "reason" "I") zw_X0_holds_142) (fun _ h9 => h9) rfl (tyX0_ok 4 (of_decide_eq_true rfl)) rfl rfl (Nat.le_of_ble_eq_true rfl) dX0_holds_115 (fun H locs hP hD hS => ?_)
          have hP : va_P (dC, dI) vwCl [zV0 h0 r0_0 r0_1 r0_2 (-2) 0, zV9 h3 v1_0 r1_1 r1_2 r1_3 r1_4 v1_5 r1_6 r1_7 r1_8, zV4 r1_6 v2_0 v2_1 r2_2 r2_3 r2_4 r2_5 r2_6 r2_7 r2_8 r2_9, zVi h1 k3 1200 f3, zV2 r1_7 v4_0 v4_1 v4_2 r4_3 r4_4 r4_5, zVi r0_2 k5 14 s_12.2.1, zVi r4_4 k6 14 f6, zVi r4_3 k7 14 f7, zV6 r0_0 r8_0 r8_1 r8_2, zVl r8_0 k9 14 s_12.2.2.2.1, zVl r8_1 k10 14 s_12.2.2.2.2, zV7 r0_1 r11_0 v11_1 v11_2, zVl r11_0 k12 14 s_12.2.2.1, zVi r2_3 k13 14 f13, zVi r2_8 k14 28 f14, zVi r2_9 k15 28 f15, zVi r1_2 k16 4 f16, zVi r1_3 k17 4 f17, zVi r2_5 k18 14 f18] H := hP
          have hD := zDW hD hP rfl
          refine lv_iconst (v := 1) hx hb dX0_holds_118 zci_1 ?_
          have ho := Option.some.inj hfn
          subst ho
          exact zrz hx hb hr rfl hK hP hD hS hQ ⟨rfl, zB1⟩ hlocks dX0_holds_119
        have hfn := (if_neg c_13).symm.trans hfn
        refine lv_iload hx hb dX0_holds_57 (lv_at hl 0 rfl) ?_
        refine lv_bipush (v := 25) hx hb dX0_holds_59 zcb_25 ?_
        refine lv_imul hx hb dX0_holds_61 ?_
        refine lv_istore (lv' := [(6, .int (s_12.1 * 25)), (5, .int s_12.1), (4, .int v2_0), (0, .ref h0), (1, .ref h1), (3, .ref h3)]) hx hb dX0_holds_62 hl (of_decide_eq_true rfl) rfl (fun ls hl => ?_)
        refine lv_aload_n hx hb dX0_holds_64 rfl (lv_at hl 3 rfl) ?_
        refine lv_aload_n hx hb dX0_holds_65 rfl (lv_at hl 5 rfl) ?_
        refine lv_iload hx hb dX0_holds_66 (lv_at hl 1 rfl) ?_
        refine lv_aload_n hx hb dX0_holds_68 rfl (lv_at hl 4 rfl) ?_
        refine lv_iload hx hb dX0_holds_69 (lv_at hl 0 rfl) ?_
        obtain ⟨h_14, hfn⟩ := zg_s hfn
        refine va_bald hx hb hK hP 3 0 rfl rfl h_14 dX0_holds_71 ?_
        refine lv_sipush (v := 255) hx hb dX0_holds_72 zcs_255 ?_
        refine lv_iand hx hb dX0_holds_75 ?_
        refine lv_aload_n hx hb dX0_holds_76 rfl (lv_at hl 4 rfl) ?_
        obtain ⟨o_15, hqo_15, hfn⟩ := zb_s hfn
        refine zcNVi (ci := 0) (rest := []) (pc' := 80) (ws' := [zV0 h0 r0_0 r0_1 r0_2 o_1.1 o_1.2, zV9 h3 v1_0 r1_1 r1_2 r1_3 r1_4 v1_5 r1_6 r1_7 r1_8, zV4 r1_6 v2_0 v2_1 r2_2 r2_3 r2_4 r2_5 r2_6 r2_7 r2_8 r2_9, zVi h1 k3 1200 f3, zV2 r1_7 v4_0 v4_1 v4_2 r4_3 r4_4 r4_5, zVi r0_2 k5 14 o_15.2.1, zVi r4_4 k6 14 f6, zVi r4_3 k7 14 f7, zV6 r0_0 r8_0 r8_1 r8_2, zVl r8_0 k9 14 o_15.2.2.1, zVl r8_1 k10 14 o_15.2.2.2.1, zV7 r0_1 r11_0 v11_1 v11_2, zVl r11_0 k12 14 o_15.2.2.2.2, zVi r2_3 k13 14 f13, zVi r2_8 k14 28 f14, zVi r2_9 k15 28 f15, zVi r1_2 k16 4 f16, zVi r1_3 k17 4 f17, zVi r2_5 k18 14 f18]) hP hK hD hS hA ⟨hx, hb, hml, hown, hts⟩ (zf_X0_whyNot l dC dI h0 h3 s_12.1 ((f3 (s_12.1 * 25).toNatClampNeg) &&& 255) h1 r0_0 r0_1 r0_2 o_1.1 o_1.2 v1_0 r1_1 r1_2 r1_3 r1_4 v1_5 r1_6 r1_7 r1_8 v4_0 v4_1 v4_2 r4_3 r4_4 r4_5 k7 f7 k5 s_12.2.1 r8_0 r8_1 r8_2 k3 f3 k9 s_12.2.2.2.1 k10 s_12.2.2.2.2 r11_0 v11_1 v11_2 k12 s_12.2.2.1 v2_0 v2_1 r2_2 r2_3 r2_4 r2_5 r2_6 r2_7 r2_8 r2_9 k13 f13 k14 f14 k15 f15 k16 f16 k17 f17 k18 f18 o_15 hqo_15 H.size) ⟨hn0, hn1, trivial⟩ (cwV 4 hts gX0_holds_X0_whyNot rfl rfl rfl zhd_X0_whyNot ⟨Nat.le_of_ble_eq_true rfl, Nat.le_of_ble_eq_true rfl⟩) [0, 1, 4, 7, 5, 8, 3, 9, 10, 11, 12, 2, 13, 14, 15, 16, 17, 18] rfl (of_decide_eq_true rfl) [3, 1, 0, 4, 5, 6, 7, 8, 9, 10, 11, 12] rfl rfl rfl rfl hl.1 rfl (Nat.le_of_ble_eq_true rfl) dX0_holds_77 ⟨Nat.le_of_ble_eq_true rfl, Nat.le_of_ble_eq_true rfl⟩ [some 0, some 1, some 11, some 6, some 2, some 4, none, some 3, some 5, some 7, some 8, some 9, some 10, some 12, some 13, some 14, some 15, some 16, some 17] (of_decide_eq_true rfl) (of_decide_eq_true rfl) rfl rfl rfl (fun H locs hP hD hS => ?_)
        refine lv_istore (lv' := [(7, .int o_15.1), (6, .int (s_12.1 * 25)), (5, .int s_12.1), (4, .int v2_0), (0, .ref h0), (1, .ref h1), (3, .ref h3)]) hx hb dX0_holds_80 hl (of_decide_eq_true rfl) rfl (fun ls hl => ?_)
        refine lv_iload hx hb dX0_holds_82 (lv_at hl 0 rfl) ?_
        refine lv_if_eq (tgt := 101) hx hb dX0_holds_84 (of_decide_eq_true rfl) (fun c_19 => ?_) (fun c_19 => ?_)
        · have hfn := (if_pos c_19).symm.trans hfn
          refine lv_iinc (v := (s_12.1 + 1)) (lv' := [(5, .int (s_12.1 + 1)), (7, .int o_15.1), (6, .int (s_12.1 * 25)), (4, .int v2_0), (0, .ref h0), (1, .ref h1), (3, .ref h3)]) hx hb dX0_holds_101 hl (k := 2) rfl rfl (of_decide_eq_true rfl) rfl (fun ls hl => ?_)
          refine lv_goto (tgt := 50) hx hb dX0_holds_104 (of_decide_eq_true rfl) ?_
          exact ih_12 ((s_12.1 + 1), o_15.2.1, o_15.2.2.2.2, o_15.2.2.1, o_15.2.2.2.1) H locs ls hfn hP hD hS (lv_sub hl [0, 3, 4, 5, 6] rfl)
        have hfn := (if_neg c_19).symm.trans hfn
        refine lv_aload_n hx hb dX0_holds_87 rfl (lv_at hl 4 rfl) ?_
        refine lv_iload hx hb dX0_holds_88 (lv_at hl 2 rfl) ?_
        refine va_put (D := (dC, dI)) (ci := 0) (v := .int s_12.1) (ty := .int) (C := RX0) (T := TX0) (N := 5) hx hb hts zn_X0_holds_X0 tyX0 tyX0_ok nmX0 hown hK hP hD hS 0 rfl rfl 3 (of_decide_eq_true rfl) (hts (.fieldLink RX0 29 "ShortEnough$CertificateReader" "breaksAt" "I") zw_X0_holds_141) (fun _ h9 => h9) rfl (tyX0_ok 3 (of_decide_eq_true rfl)) rfl rfl (Nat.le_of_ble_eq_true rfl) dX0_holds_90 (fun H locs hP hD hS => ?_)
        have hP : va_P (dC, dI) vwCl [zV0 h0 r0_0 r0_1 r0_2 s_12.1 o_1.2, zV9 h3 v1_0 r1_1 r1_2 r1_3 r1_4 v1_5 r1_6 r1_7 r1_8, zV4 r1_6 v2_0 v2_1 r2_2 r2_3 r2_4 r2_5 r2_6 r2_7 r2_8 r2_9, zVi h1 k3 1200 f3, zV2 r1_7 v4_0 v4_1 v4_2 r4_3 r4_4 r4_5, zVi r0_2 k5 14 o_15.2.1, zVi r4_4 k6 14 f6, zVi r4_3 k7 14 f7, zV6 r0_0 r8_0 r8_1 r8_2, zVl r8_0 k9 14 o_15.2.2.1, zVl r8_1 k10 14 o_15.2.2.2.1, zV7 r0_1 r11_0 v11_1 v11_2, zVl r11_0 k12 14 o_15.2.2.2.2, zVi r2_3 k13 14 f13, zVi r2_8 k14 28 f14, zVi r2_9 k15 28 f15, zVi r1_2 k16 4 f16, zVi r1_3 k17 4 f17, zVi r2_5 k18 14 f18] H := hP
        have hD := zDW hD hP rfl
        refine lv_aload_n hx hb dX0_holds_93 rfl (lv_at hl 4 rfl) ?_
        refine lv_iload hx hb dX0_holds_94 (lv_at hl 0 rfl) ?_
        refine va_put (D := (dC, dI)) (ci := 0) (v := .int o_15.1) (ty := .int) (C := RX0) (T := TX0) (N := 5) hx hb hts zn_X0_holds_X0 tyX0 tyX0_ok nmX0 hown hK hP hD hS 0 rfl rfl 4 (of_decide_eq_true rfl) (hts (.fieldLink RX0 33 "ShortEnough$CertificateReader" "reason" "I") zw_X0_holds_142) (fun _ h9 => h9) rfl (tyX0_ok 4 (of_decide_eq_true rfl)) rfl rfl (Nat.le_of_ble_eq_true rfl) dX0_holds_96 (fun H locs hP hD hS => ?_)
        have hP : va_P (dC, dI) vwCl [zV0 h0 r0_0 r0_1 r0_2 s_12.1 o_15.1, zV9 h3 v1_0 r1_1 r1_2 r1_3 r1_4 v1_5 r1_6 r1_7 r1_8, zV4 r1_6 v2_0 v2_1 r2_2 r2_3 r2_4 r2_5 r2_6 r2_7 r2_8 r2_9, zVi h1 k3 1200 f3, zV2 r1_7 v4_0 v4_1 v4_2 r4_3 r4_4 r4_5, zVi r0_2 k5 14 o_15.2.1, zVi r4_4 k6 14 f6, zVi r4_3 k7 14 f7, zV6 r0_0 r8_0 r8_1 r8_2, zVl r8_0 k9 14 o_15.2.2.1, zVl r8_1 k10 14 o_15.2.2.2.1, zV7 r0_1 r11_0 v11_1 v11_2, zVl r11_0 k12 14 o_15.2.2.2.2, zVi r2_3 k13 14 f13, zVi r2_8 k14 28 f14, zVi r2_9 k15 28 f15, zVi r1_2 k16 4 f16, zVi r1_3 k17 4 f17, zVi r2_5 k18 14 f18] H := hP
        have hD := zDW hD hP rfl
        refine lv_iconst (v := 0) hx hb dX0_holds_99 zci_0 ?_
        have ho := Option.some.inj hfn
        subst ho
        exact zrz hx hb hr rfl hK hP hD hS hQ ⟨rfl, zB0⟩ hlocks dX0_holds_100
    exact lp_12 _ (0, o_8, f12, f9, f10) H locs ls hfn hP hD hS (lv_sub hl [0, 1, 2, 3, 5] rfl)
  have hfn := (if_neg c_7).symm.trans hfn
  refine lv_iconst (v := 0) hx hb dX0_holds_33 zci_0 ?_
  have ho := Option.some.inj hfn
  subst ho
  exact zrz hx hb hr rfl hK hP hD hS hQ ⟨rfl, zB0⟩ hlocks dX0_holds_34
theorem zn_X1_forget_X1 : ∀ w ∈ wsX10, w ∈ wsX1_forget := fun _ h => List.mem_cons_of_mem _ (List.mem_append_right _ h)
theorem zw_X1_forget_144 : Cond.fieldLink RX1 44 "ShortEnough$FullSearch" "ready" "Z" ∈ wsX1_forget := List.mem_of_getElem? (i := 1) (by decide +kernel)
theorem zw_X1_forget_145 : Cond.fieldLink RX1 32 "ShortEnough$FullSearch" "frontOf" "I" ∈ wsX1_forget := List.mem_of_getElem? (i := 2) (by decide +kernel)
set_option maxHeartbeats 4000000 in
set_option maxRecDepth 100000 in
theorem zf_X1_forget (l : Launch) (dC : Nat → ClassId) (dI : Nat → Nat → Nat) (h0 : Nat) (r0_0 : Nat) (r0_1 : Nat) (v0_2 : Int32) (v0_3 : Int32) (r0_4 : Nat) (r0_5 : Nat) (v0_6 : Int32) (v0_7 : Int32) (v0_8 : Int32) (v0_9 : Int32) (v0_10 : Int32) (r0_11 : Nat) (r0_12 : Nat) (r0_13 : Nat) (o : Int32 × Int32) (hfn : fn_X1_forget = some o) (sz : Nat) : zMv l yX1_forget wsX1_forget ({ frames := 0, cells := 0, slots := 0, locals := 0 }) (dC, dI) vwCl [.ref h0] [zV1 h0 r0_0 r0_1 v0_2 v0_3 r0_4 r0_5 v0_6 v0_7 v0_8 v0_9 v0_10 r0_11 r0_12 r0_13] [] (fun _ => True) [zV1 h0 r0_0 r0_1 o.1 v0_3 r0_4 r0_5 v0_6 v0_7 v0_8 o.2 v0_10 r0_11 r0_12 r0_13] [] sz := by
  refine zgov (cc := cX1_forget) (maxL := 1) (ret := none) (C0 := RX1) (lv0 := [(0, .ref h0)]) zpl_X1 rfl rfl rfl (Nat.le_of_ble_eq_true rfl) ?_
  intro p e s m below meth c A ls Q hx hb hr hts hown hlocks hml hP hK hD hA hS hl hQ
  unfold fn_X1_forget at hfn
  refine lv_aload_n hx hb dX1_forget_0 rfl (lv_at hl 0 rfl) ?_
  refine lv_iconst (v := 0) hx hb dX1_forget_1 zci_0 ?_
  refine va_put (D := (dC, dI)) (ci := 1) (v := .int 0) (ty := .boolean) (C := RX1) (T := TX1) (N := 14) hx hb hts zn_X1_forget_X1 tyX1 tyX1_ok nmX1 hown hK hP hD hS 0 rfl rfl 2 (of_decide_eq_true rfl) (hts (.fieldLink RX1 44 "ShortEnough$FullSearch" "ready" "Z") zw_X1_forget_144) (fun _ h9 => h9) rfl (tyX1_ok 2 (of_decide_eq_true rfl)) rfl rfl (Nat.le_of_ble_eq_true rfl) dX1_forget_2 (fun H locs hP hD hS => ?_)
  have hP : va_P (dC, dI) vwCl [zV1 h0 r0_0 r0_1 0 v0_3 r0_4 r0_5 v0_6 v0_7 v0_8 v0_9 v0_10 r0_11 r0_12 r0_13] H := hP
  have hD := zDW hD hP rfl
  refine lv_aload_n hx hb dX1_forget_5 rfl (lv_at hl 0 rfl) ?_
  refine lv_iconst (v := (-1)) hx hb dX1_forget_6 zci_m1 ?_
  refine va_put (D := (dC, dI)) (ci := 1) (v := .int (-1)) (ty := .int) (C := RX1) (T := TX1) (N := 14) hx hb hts zn_X1_forget_X1 tyX1 tyX1_ok nmX1 hown hK hP hD hS 0 rfl rfl 9 (of_decide_eq_true rfl) (hts (.fieldLink RX1 32 "ShortEnough$FullSearch" "frontOf" "I") zw_X1_forget_145) (fun _ h9 => h9) rfl (tyX1_ok 9 (of_decide_eq_true rfl)) rfl rfl (Nat.le_of_ble_eq_true rfl) dX1_forget_7 (fun H locs hP hD hS => ?_)
  have hP : va_P (dC, dI) vwCl [zV1 h0 r0_0 r0_1 0 v0_3 r0_4 r0_5 v0_6 v0_7 v0_8 (-1) v0_10 r0_11 r0_12 r0_13] H := hP
  have hD := zDW hD hP rfl
  have ho := Option.some.inj hfn
  subst ho
  exact zrv hx hb hr hK hP hD hS hQ trivial hlocks dX1_forget_10
theorem zn_X9_hasChoice_X9 : ∀ w ∈ wsX90, w ∈ wsX9_hasChoice := fun _ h => List.mem_cons_of_mem _ (List.mem_append_left _ (List.mem_append_left _ (List.mem_append_right _ h)))
theorem zw_X9_hasChoice_158 : Cond.fieldLink RX9 27 "ShortEnough$Task" "numbers" "LShortEnough$Numbers;" ∈ wsX9_hasChoice := List.mem_of_getElem? (i := 1) (by decide +kernel)
theorem zn_X9_hasChoice_X4 : ∀ w ∈ wsX40, w ∈ wsX9_hasChoice := fun _ h => List.mem_cons_of_mem _ (List.mem_append_left _ (List.mem_append_right _ h))
theorem zw_X9_hasChoice_160 : Cond.fieldLink RX9 52 "ShortEnough$Numbers" "count" "I" ∈ wsX9_hasChoice := List.mem_of_getElem? (i := 2) (by decide +kernel)
theorem zw_X9_hasChoice_161 : Cond.fieldLink RX9 34 "ShortEnough$Task" "groups" "LShortEnough$Groups;" ∈ wsX9_hasChoice := List.mem_of_getElem? (i := 3) (by decide +kernel)
theorem zn_X9_hasChoice_X2 : ∀ w ∈ wsX20, w ∈ wsX9_hasChoice := fun _ h => List.mem_cons_of_mem _ (List.mem_append_right _ h)
theorem zw_X9_hasChoice_163 : Cond.fieldLink RX9 66 "ShortEnough$Groups" "clash" "Z" ∈ wsX9_hasChoice := List.mem_of_getElem? (i := 4) (by decide +kernel)
set_option maxHeartbeats 4000000 in
set_option maxRecDepth 100000 in
theorem zf_X9_hasChoice (l : Launch) (dC : Nat → ClassId) (dI : Nat → Nat → Nat) (h0 : Nat) (v0_0 : Int32) (r0_1 : Nat) (r0_2 : Nat) (r0_3 : Nat) (r0_4 : Nat) (v0_5 : Int32) (r0_6 : Nat) (r0_7 : Nat) (r0_8 : Nat) (v1_0 : Int32) (v1_1 : Int32) (r1_2 : Nat) (r1_3 : Nat) (r1_4 : Nat) (r1_5 : Nat) (r1_6 : Nat) (r1_7 : Nat) (r1_8 : Nat) (r1_9 : Nat) (v2_0 : Int32) (v2_1 : Int32) (v2_2 : Int32) (r2_3 : Nat) (r2_4 : Nat) (r2_5 : Nat) (o : Int32) (hfn : fn_X9_hasChoice v1_0 v2_2 = some o) (sz : Nat) : zMi l yX9_hasChoice wsX9_hasChoice ({ frames := 0, cells := 0, slots := 0, locals := 0 }) (dC, dI) vwCl [.ref h0] [zV9 h0 v0_0 r0_1 r0_2 r0_3 r0_4 v0_5 r0_6 r0_7 r0_8, zV4 r0_6 v1_0 v1_1 r1_2 r1_3 r1_4 r1_5 r1_6 r1_7 r1_8 r1_9, zV2 r0_7 v2_0 v2_1 v2_2 r2_3 r2_4 r2_5] [] (fun r _ => r = o ∧ narrow .boolean (.int o) = .int o) [zV9 h0 v0_0 r0_1 r0_2 r0_3 r0_4 v0_5 r0_6 r0_7 r0_8, zV4 r0_6 v1_0 v1_1 r1_2 r1_3 r1_4 r1_5 r1_6 r1_7 r1_8 r1_9, zV2 r0_7 v2_0 v2_1 v2_2 r2_3 r2_4 r2_5] [] sz := by
  refine zgoi (cc := cX9_hasChoice) (maxL := 1) (ret := (some .boolean)) (C0 := RX9) (lv0 := [(0, .ref h0)]) zpl_X9 rfl rfl rfl (Nat.le_of_ble_eq_true rfl) ?_
  intro p e s m below meth c A ls Q hx hb hr hts hown hlocks hml hP hK hD hA hS hl hQ
  unfold fn_X9_hasChoice at hfn
  refine lv_aload_n hx hb dX9_hasChoice_0 rfl (lv_at hl 0 rfl) ?_
  refine va_get (D := (dC, dI)) (ci := 9) (v := .ref r0_6) (C := RX9) (T := TX9) (N := 9) hx hb hts zn_X9_hasChoice_X9 hown hK hP 0 rfl rfl 6 (of_decide_eq_true rfl) (hts (.fieldLink RX9 27 "ShortEnough$Task" "numbers" "LShortEnough$Numbers;") zw_X9_hasChoice_158) (fun _ h9 => h9) rfl dX9_hasChoice_1 ?_
  refine va_get (D := (dC, dI)) (ci := 4) (v := .int v1_0) (C := RX4) (T := TX4) (N := 10) hx hb hts zn_X9_hasChoice_X4 hown hK hP 1 rfl rfl 0 (of_decide_eq_true rfl) (hts (.fieldLink RX9 52 "ShortEnough$Numbers" "count" "I") zw_X9_hasChoice_160) (fun _ h9 => h9) rfl dX9_hasChoice_4 ?_
  refine lv_if_le (tgt := 24) hx hb dX9_hasChoice_7 (of_decide_eq_true rfl) (fun c_1 => ?_) (fun c_1 => ?_)
  · have hfn := (if_pos c_1).symm.trans hfn
    refine lv_iconst (v := 0) hx hb dX9_hasChoice_24 zci_0 ?_
    have ho := Option.some.inj hfn
    subst ho
    exact zrz hx hb hr rfl hK hP hD hS hQ ⟨rfl, zB0⟩ hlocks dX9_hasChoice_25
  have hfn := (if_neg c_1).symm.trans hfn
  refine lv_aload_n hx hb dX9_hasChoice_10 rfl (lv_at hl 0 rfl) ?_
  refine va_get (D := (dC, dI)) (ci := 9) (v := .ref r0_7) (C := RX9) (T := TX9) (N := 9) hx hb hts zn_X9_hasChoice_X9 hown hK hP 0 rfl rfl 7 (of_decide_eq_true rfl) (hts (.fieldLink RX9 34 "ShortEnough$Task" "groups" "LShortEnough$Groups;") zw_X9_hasChoice_161) (fun _ h9 => h9) rfl dX9_hasChoice_11 ?_
  refine va_get (D := (dC, dI)) (ci := 2) (v := .int v2_2) (C := RX2) (T := TX2) (N := 6) hx hb hts zn_X9_hasChoice_X2 hown hK hP 2 rfl rfl 2 (of_decide_eq_true rfl) (hts (.fieldLink RX9 66 "ShortEnough$Groups" "clash" "Z") zw_X9_hasChoice_163) (fun _ h9 => h9) rfl dX9_hasChoice_14 ?_
  refine lv_if_ne (tgt := 24) hx hb dX9_hasChoice_17 (of_decide_eq_true rfl) (fun c_2 => ?_) (fun c_2 => ?_)
  · have hfn := (if_neg c_2).symm.trans hfn
    refine lv_iconst (v := 0) hx hb dX9_hasChoice_24 zci_0 ?_
    have ho := Option.some.inj hfn
    subst ho
    exact zrz hx hb hr rfl hK hP hD hS hQ ⟨rfl, zB0⟩ hlocks dX9_hasChoice_25
  have hfn := (if_pos c_2).symm.trans hfn
  refine lv_iconst (v := 1) hx hb dX9_hasChoice_20 zci_1 ?_
  refine lv_goto (tgt := 25) hx hb dX9_hasChoice_21 (of_decide_eq_true rfl) ?_
  have ho := Option.some.inj hfn
  subst ho
  exact zrz hx hb hr rfl hK hP hD hS hQ ⟨rfl, zB1⟩ hlocks dX9_hasChoice_25
theorem zn_X4_countAnswers_X4 : ∀ w ∈ wsX40, w ∈ wsX4_countAnswers := fun _ h => List.mem_cons_of_mem _ (List.mem_append_right _ h)
theorem zw_X4_countAnswers_173 : Cond.fieldLink RX4 36 "ShortEnough$Numbers" "count" "I" ∈ wsX4_countAnswers := List.mem_of_getElem? (i := 1) (by decide +kernel)
theorem zw_X4_countAnswers_174 : Cond.fieldLink RX4 21 "ShortEnough$Numbers" "allowed" "[I" ∈ wsX4_countAnswers := List.mem_of_getElem? (i := 2) (by decide +kernel)
set_option maxHeartbeats 4000000 in
set_option maxRecDepth 100000 in
theorem zf_X4_countAnswers (l : Launch) (dC : Nat → ClassId) (dI : Nat → Nat → Nat) (h0 : Nat) (p1 : Int32) (v0_0 : Int32) (v0_1 : Int32) (r0_2 : Nat) (r0_3 : Nat) (r0_4 : Nat) (r0_5 : Nat) (r0_6 : Nat) (r0_7 : Nat) (r0_8 : Nat) (r0_9 : Nat) (k1 : Nat) (f1 : Nat → Int32) (o : Int32) (hfn : fn_X4_countAnswers p1 v0_0 f1 = some o) (sz : Nat) : zMi l yX4_countAnswers wsX4_countAnswers ({ frames := 0, cells := 0, slots := 0, locals := 0 }) (dC, dI) vwCl [.ref h0, .int p1] [zV4 h0 v0_0 v0_1 r0_2 r0_3 r0_4 r0_5 r0_6 r0_7 r0_8 r0_9, zVi r0_5 k1 14 f1] [(k1, .int)] (fun r _ => r = o) [zV4 h0 v0_0 v0_1 r0_2 r0_3 r0_4 r0_5 r0_6 r0_7 r0_8 r0_9, zVi r0_5 k1 14 f1] [(k1, .int)] sz := by
  refine zgoi (cc := cX4_countAnswers) (maxL := 4) (ret := (some .int)) (C0 := RX4) (lv0 := [(0, .ref h0), (1, .int p1)]) zpl_X4 rfl rfl rfl (Nat.le_of_ble_eq_true rfl) ?_
  intro p e s m below meth c A ls Q hx hb hr hts hown hlocks hml hP hK hD hA hS hl hQ
  unfold fn_X4_countAnswers at hfn
  refine lv_iconst (v := 0) hx hb dX4_countAnswers_0 zci_0 ?_
  refine lv_istore_n (lv' := [(2, .int 0), (0, .ref h0), (1, .int p1)]) hx hb dX4_countAnswers_1 rfl hl (of_decide_eq_true rfl) rfl (fun ls hl => ?_)
  refine lv_iconst (v := 0) hx hb dX4_countAnswers_2 zci_0 ?_
  refine lv_istore_n (lv' := [(3, .int 0), (2, .int 0), (0, .ref h0), (1, .int p1)]) hx hb dX4_countAnswers_3 rfl hl (of_decide_eq_true rfl) rfl (fun ls hl => ?_)
  obtain ⟨bd_1, ebd_1, hfn⟩ := zl_g hfn
  have lp_1 : ∀ (n : Nat) (s_1 : Int32 × Int32) (H : Heap) (locs : List Loc) (ls : Array Slot), zl bd_1 n s_1 = some o → va_P (dC, dI) vwCl [zV4 h0 v0_0 v0_1 r0_2 r0_3 r0_4 r0_5 r0_6 r0_7 r0_8 r0_9, zVi r0_5 k1 14 f1] H → va_D A [zV4 h0 v0_0 v0_1 r0_2 r0_3 r0_4 r0_5 r0_6 r0_7 r0_8 r0_9, zVi r0_5 k1 14 f1] → va_S A s.heap H locs → lv_has ls 4 [(3, .int s_1.2), (2, .int s_1.1), (0, .ref h0), (1, .int p1)] → W p l e (headSpec wsX4_countAnswers ({ frames := 0, cells := 0, slots := 0, locals := 0 })).room s m ([.ref h0, .int p1] : List Value).toArray below meth c H locs 0 0 Q (F0 m 4 ls []) := by
    intro n
    induction n with
    | zero => exact fun _ _ _ _ hfn => (zl_0 hfn).elim
    | succ n ih_1 =>
      intro s_1 H locs ls hfn hP hD hS hl
      have hfn := zl_s ebd_1 hfn
      refine lv_iload_n hx hb dX4_countAnswers_4 rfl (lv_at hl 0 rfl) ?_
      refine lv_iload_n hx hb dX4_countAnswers_5 rfl (lv_at hl 3 rfl) ?_
      refine lv_icmp_ge (tgt := 41) hx hb dX4_countAnswers_6 (of_decide_eq_true rfl) (fun c_2 => ?_) (fun c_2 => ?_)
      · have hfn := (if_pos c_2).symm.trans hfn
        refine lv_iload_n hx hb dX4_countAnswers_41 rfl (lv_at hl 1 rfl) ?_
        have ho := Option.some.inj hfn
        subst ho
        exact zri hx hb hr hK hP hD hS hQ rfl hlocks dX4_countAnswers_42
      have hfn := (if_neg c_2).symm.trans hfn
      refine lv_iload_n hx hb dX4_countAnswers_9 rfl (lv_at hl 0 rfl) ?_
      refine lv_aload_n hx hb dX4_countAnswers_10 rfl (lv_at hl 2 rfl) ?_
      refine va_get (D := (dC, dI)) (ci := 4) (v := .int v0_0) (C := RX4) (T := TX4) (N := 10) hx hb hts zn_X4_countAnswers_X4 hown hK hP 0 rfl rfl 0 (of_decide_eq_true rfl) (hts (.fieldLink RX4 36 "ShortEnough$Numbers" "count" "I") zw_X4_countAnswers_173) (fun _ h9 => h9) rfl dX4_countAnswers_11 ?_
      refine lv_icmp_ge (tgt := 41) hx hb dX4_countAnswers_14 (of_decide_eq_true rfl) (fun c_3 => ?_) (fun c_3 => ?_)
      · have hfn := (if_pos c_3).symm.trans hfn
        refine lv_iload_n hx hb dX4_countAnswers_41 rfl (lv_at hl 1 rfl) ?_
        have ho := Option.some.inj hfn
        subst ho
        exact zri hx hb hr hK hP hD hS hQ rfl hlocks dX4_countAnswers_42
      have hfn := (if_neg c_3).symm.trans hfn
      refine lv_iload_n hx hb dX4_countAnswers_17 rfl (lv_at hl 1 rfl) ?_
      refine lv_aload_n hx hb dX4_countAnswers_18 rfl (lv_at hl 2 rfl) ?_
      refine va_get (D := (dC, dI)) (ci := 4) (v := .ref r0_5) (C := RX4) (T := TX4) (N := 10) hx hb hts zn_X4_countAnswers_X4 hown hK hP 0 rfl rfl 5 (of_decide_eq_true rfl) (hts (.fieldLink RX4 21 "ShortEnough$Numbers" "allowed" "[I") zw_X4_countAnswers_174) (fun _ h9 => h9) rfl dX4_countAnswers_19 ?_
      refine lv_iload_n hx hb dX4_countAnswers_22 rfl (lv_at hl 0 rfl) ?_
      obtain ⟨h_4, hfn⟩ := zg_s hfn
      refine va_iald hx hb hK hP 1 0 rfl rfl h_4 dX4_countAnswers_23 ?_
      refine lv_iconst (v := (-1)) hx hb dX4_countAnswers_24 zci_m1 ?_
      refine lv_icmp_eq (tgt := 32) hx hb dX4_countAnswers_25 (of_decide_eq_true rfl) (fun c_5 => ?_) (fun c_5 => ?_)
      · have hfn := (if_pos c_5).symm.trans hfn
        refine lv_iconst (v := 0) hx hb dX4_countAnswers_32 zci_0 ?_
        refine lv_iadd hx hb dX4_countAnswers_33 ?_
        refine lv_istore_n (lv' := [(2, .int (s_1.1 + 0)), (3, .int s_1.2), (0, .ref h0), (1, .int p1)]) hx hb dX4_countAnswers_34 rfl hl (of_decide_eq_true rfl) rfl (fun ls hl => ?_)
        refine lv_iinc (v := (s_1.2 + 1)) (lv' := [(3, .int (s_1.2 + 1)), (2, .int (s_1.1 + 0)), (0, .ref h0), (1, .int p1)]) hx hb dX4_countAnswers_35 hl (k := 1) rfl rfl (of_decide_eq_true rfl) rfl (fun ls hl => ?_)
        refine lv_goto (tgt := 4) hx hb dX4_countAnswers_38 (of_decide_eq_true rfl) ?_
        exact ih_1 ((s_1.1 + 0), (s_1.2 + 1)) H locs ls hfn hP hD hS (lv_sub hl [0, 1, 2, 3] rfl)
      have hfn := (if_neg c_5).symm.trans hfn
      refine lv_iconst (v := 1) hx hb dX4_countAnswers_28 zci_1 ?_
      refine lv_goto (tgt := 33) hx hb dX4_countAnswers_29 (of_decide_eq_true rfl) ?_
      refine lv_iadd hx hb dX4_countAnswers_33 ?_
      refine lv_istore_n (lv' := [(2, .int (s_1.1 + 1)), (3, .int s_1.2), (0, .ref h0), (1, .int p1)]) hx hb dX4_countAnswers_34 rfl hl (of_decide_eq_true rfl) rfl (fun ls hl => ?_)
      refine lv_iinc (v := (s_1.2 + 1)) (lv' := [(3, .int (s_1.2 + 1)), (2, .int (s_1.1 + 1)), (0, .ref h0), (1, .int p1)]) hx hb dX4_countAnswers_35 hl (k := 1) rfl rfl (of_decide_eq_true rfl) rfl (fun ls hl => ?_)
      refine lv_goto (tgt := 4) hx hb dX4_countAnswers_38 (of_decide_eq_true rfl) ?_
      exact ih_1 ((s_1.1 + 1), (s_1.2 + 1)) H locs ls hfn hP hD hS (lv_sub hl [0, 1, 2, 3] rfl)
  exact lp_1 _ (0, 0) s.heap [] ls hfn hP hD hS (lv_sub hl [0, 1, 2, 3] rfl)
theorem zn_X1_makeRoom_X1 : ∀ w ∈ wsX10, w ∈ wsX1_makeRoom := fun _ h => List.mem_cons_of_mem _ (List.mem_append_right _ h)
theorem zw_X1_makeRoom_178 : Cond.fieldLink RX1 22 "ShortEnough$FullSearch" "prices" "[I" ∈ wsX1_makeRoom := List.mem_of_getElem? (i := 1) (by decide +kernel)
theorem zw_X1_makeRoom_179 : Cond.arrayClass .int ∈ wsX1_makeRoom := List.mem_of_getElem? (i := 2) (by decide +kernel)
theorem zw_X1_makeRoom_180 : Cond.fieldLink RX1 35 "ShortEnough$FullSearch" "frontPrice" "[I" ∈ wsX1_makeRoom := List.mem_of_getElem? (i := 3) (by decide +kernel)
theorem zw_X1_makeRoom_181 : Cond.fieldLink RX1 38 "ShortEnough$FullSearch" "frontError" "[I" ∈ wsX1_makeRoom := List.mem_of_getElem? (i := 4) (by decide +kernel)
theorem zw_X1_makeRoom_182 : Cond.fieldLink RX1 41 "ShortEnough$FullSearch" "frontMany" "[I" ∈ wsX1_makeRoom := List.mem_of_getElem? (i := 5) (by decide +kernel)
theorem zw_X1_makeRoom_183 : Cond.fieldLink RX1 25 "ShortEnough$FullSearch" "errors" "[I" ∈ wsX1_makeRoom := List.mem_of_getElem? (i := 6) (by decide +kernel)
theorem zw_X1_makeRoom_184 : Cond.fieldLink RX1 86 "ShortEnough$FullSearch" "answers" "I" ∈ wsX1_makeRoom := List.mem_of_getElem? (i := 7) (by decide +kernel)
set_option maxHeartbeats 4000000 in
set_option maxRecDepth 100000 in
theorem zf_X1_makeRoom (l : Launch) (dC : Nat → ClassId) (dI : Nat → Nat → Nat) (h0 : Nat) (p1 : Int32) (r0_0 : Nat) (r0_1 : Nat) (v0_2 : Int32) (v0_3 : Int32) (r0_4 : Nat) (r0_5 : Nat) (v0_6 : Int32) (v0_7 : Int32) (v0_8 : Int32) (v0_9 : Int32) (v0_10 : Int32) (r0_11 : Nat) (r0_12 : Nat) (r0_13 : Nat) (k1 : Nat) (n1 : Nat) (f1 : Nat → Int32) (k2 : Nat) (n2 : Nat) (f2 : Nat → Int32) (k3 : Nat) (n3 : Nat) (f3 : Nat → Int32) (k4 : Nat) (n4 : Nat) (f4 : Nat → Int32) (k5 : Nat) (n5 : Nat) (f5 : Nat → Int32) (o : (Nat → Int32) × Nat × (Nat → Int32) × Nat × (Nat → Int32) × Nat × (Nat → Int32) × Nat × (Nat → Int32) × Nat) (hfn : fn_X1_makeRoom p1 v0_3 n1 f1 n2 f2 n3 f3 n4 f4 n5 f5 = some o) (sz : Nat) : Met l yX1_makeRoom wsX1_makeRoom ({ frames := 0, cells := 5, slots := 18432, locals := 0 }) (va_Pc [.ref h0, .int p1] (fun U => U.heap.size = sz ∧ va_P (dC, dI) vwCl [zV1 h0 r0_0 r0_1 v0_2 v0_3 r0_4 r0_5 v0_6 v0_7 v0_8 v0_9 v0_10 r0_11 r0_12 r0_13, zVi r0_4 k1 n1 f1, zVi r0_5 k2 n2 f2, zVi r0_12 k3 n3 f3, zVi r0_11 k4 n4 f4, zVi r0_13 k5 n5 f5] U.heap ∧ va_K (dC, dI) vwCl [(k1, .int), (k2, .int), (k3, .int), (k4, .int), (k5, .int)] U ∧ va_D (fun _ => True) [zV1 h0 r0_0 r0_1 v0_2 v0_3 r0_4 r0_5 v0_6 v0_7 v0_8 v0_9 v0_10 r0_11 r0_12 r0_13, zVi r0_4 k1 n1 f1, zVi r0_5 k2 n2 f2, zVi r0_12 k3 n3 f3, zVi r0_11 k4 n4 f4, zVi r0_13 k5 n5 f5])) (va_Qv (fun (u : Nat → Nat) => True) (fun u t => va_P (dC, dI) vwCl [zV1 h0 r0_0 r0_1 v0_2 v0_3 (u 0) (u 2) v0_6 v0_7 v0_8 v0_9 v0_10 (u 6) (u 4) (u 8), zVi (u 0) (u 1) o.2.1 o.1, zVi (u 2) (u 3) o.2.2.2.1 o.2.2.1, zVi (u 4) (u 5) o.2.2.2.2.2.1 o.2.2.2.2.1, zVi (u 6) (u 7) o.2.2.2.2.2.2.2.1 o.2.2.2.2.2.2.1, zVi (u 8) (u 9) o.2.2.2.2.2.2.2.2.2 o.2.2.2.2.2.2.2.2.1] t.heap ∧ va_K (dC, dI) vwCl [((u 1), .int), ((u 3), .int), ((u 5), .int), ((u 7), .int), ((u 9), .int)] t ∧ va_D (va_A [zV1 h0 r0_0 r0_1 v0_2 v0_3 r0_4 r0_5 v0_6 v0_7 v0_8 v0_9 v0_10 r0_11 r0_12 r0_13, zVi r0_4 k1 n1 f1, zVi r0_5 k2 n2 f2, zVi r0_12 k3 n3 f3, zVi r0_11 k4 n4 f4, zVi r0_13 k5 n5 f5] sz) [zV1 h0 r0_0 r0_1 v0_2 v0_3 (u 0) (u 2) v0_6 v0_7 v0_8 v0_9 v0_10 (u 6) (u 4) (u 8), zVi (u 0) (u 1) o.2.1 o.1, zVi (u 2) (u 3) o.2.2.2.1 o.2.2.1, zVi (u 4) (u 5) o.2.2.2.2.2.1 o.2.2.2.2.1, zVi (u 6) (u 7) o.2.2.2.2.2.2.2.1 o.2.2.2.2.2.2.1, zVi (u 8) (u 9) o.2.2.2.2.2.2.2.2.2 o.2.2.2.2.2.2.2.2.1]) (va_A [zV1 h0 r0_0 r0_1 v0_2 v0_3 r0_4 r0_5 v0_6 v0_7 v0_8 v0_9 v0_10 r0_11 r0_12 r0_13, zVi r0_4 k1 n1 f1, zVi r0_5 k2 n2 f2, zVi r0_12 k3 n3 f3, zVi r0_11 k4 n4 f4, zVi r0_13 k5 n5 f5] sz)) 5 18432 (va_A [zV1 h0 r0_0 r0_1 v0_2 v0_3 r0_4 r0_5 v0_6 v0_7 v0_8 v0_9 v0_10 r0_11 r0_12 r0_13, zVi r0_4 k1 n1 f1, zVi r0_5 k2 n2 f2, zVi r0_12 k3 n3 f3, zVi r0_11 k4 n4 f4, zVi r0_13 k5 n5 f5] sz) := by
  refine Met.ofW (cc := cX1_makeRoom) (maxL := 2) (ret := none) (by decide +kernel) rfl ?_
  intro p e s m args below meth c s₁ B hml hv
  obtain ⟨rfl, hsz, hP, hK, hD0⟩ := hv
  have hx := B.exec
  have hb := B.bytes
  have hr := B.returns
  have hts := atoms_spec (ws := wsX1_makeRoom) B.pre
  have hown : s.vm.findClass RX1 = some m.cls := (findClass_of_methodNamed B.named :)
  have hlocks := B.notSynchronized
  subst hsz
  have hD := hD0.self (sz := s.heap.size)
  generalize hAe : va_A [zV1 h0 r0_0 r0_1 v0_2 v0_3 r0_4 r0_5 v0_6 v0_7 v0_8 v0_9 v0_10 r0_11 r0_12 r0_13, zVi r0_4 k1 n1 f1, zVi r0_5 k2 n2 f2, zVi r0_12 k3 n3 f3, zVi r0_11 k4 n4 f4, zVi r0_13 k5 n5 f5] s.heap.size = A at hD ⊢
  have hA : ∀ q : Nat, s.heap.size ≤ q → A q := fun q h => by rw [← hAe]; exact Or.inr h
  have hS : va_S A s.heap s.heap [] := va_S.rf
  have hP : va_P (dC, dI) vwCl [zV1 h0 r0_0 r0_1 v0_2 v0_3 r0_4 r0_5 v0_6 v0_7 v0_8 v0_9 v0_10 r0_11 r0_12 r0_13, zVi r0_4 k1 n1 f1, zVi r0_5 k2 n2 f2, zVi r0_12 k3 n3 f3, zVi r0_11 k4 n4 f4, zVi r0_13 k5 n5 f5] s.heap := hP
  have hl := lv_entry ([.ref h0, .int p1]) (n := 2) (Nat.le_of_ble_eq_true rfl)
  rw [lg_entry_eq]
  generalize (lg_sl ([.ref h0, .int p1]) ++ List.replicate (2 - (lg_sl ([.ref h0, .int p1])).length) Slot.unset).toArray = ls at hl ⊢
  have hl : lv_has ls 2 [(0, .ref h0), (1, .int p1)] := hl
  refine zQ (fun Q hQ => ?_)
  unfold fn_X1_makeRoom at hfn
  refine lv_aload_n hx hb dX1_makeRoom_0 rfl (lv_at hl 0 rfl) ?_
  refine va_get (D := (dC, dI)) (ci := 1) (v := .ref r0_4) (C := RX1) (T := TX1) (N := 14) hx hb hts zn_X1_makeRoom_X1 hown hK hP 0 rfl rfl 4 (of_decide_eq_true rfl) (hts (.fieldLink RX1 22 "ShortEnough$FullSearch" "prices" "[I") zw_X1_makeRoom_178) (fun _ h9 => h9) rfl dX1_makeRoom_1 ?_
  refine va_alen (v := (Int32.ofNat n1)) hx hb hK hP 1 0 rfl rfl rfl dX1_makeRoom_4 ?_
  refine lv_iload_n hx hb dX1_makeRoom_5 rfl (lv_at hl 1 rfl) ?_
  refine lv_icmp_ge (tgt := 37) hx hb dX1_makeRoom_6 (of_decide_eq_true rfl) (fun c_1 => ?_) (fun c_1 => ?_)
  · have hfn := (if_pos c_1).symm.trans hfn
    refine lv_aload_n hx hb dX1_makeRoom_37 rfl (lv_at hl 0 rfl) ?_
    refine va_get (D := (dC, dI)) (ci := 1) (v := .ref r0_5) (C := RX1) (T := TX1) (N := 14) hx hb hts zn_X1_makeRoom_X1 hown hK hP 0 rfl rfl 5 (of_decide_eq_true rfl) (hts (.fieldLink RX1 25 "ShortEnough$FullSearch" "errors" "[I") zw_X1_makeRoom_183) (fun _ h9 => h9) rfl dX1_makeRoom_38 ?_
    refine va_alen (v := (Int32.ofNat n2)) hx hb hK hP 2 1 rfl rfl rfl dX1_makeRoom_41 ?_
    refine lv_iload_n hx hb dX1_makeRoom_42 rfl (lv_at hl 1 rfl) ?_
    refine lv_aload_n hx hb dX1_makeRoom_43 rfl (lv_at hl 0 rfl) ?_
    refine va_get (D := (dC, dI)) (ci := 1) (v := .int v0_3) (C := RX1) (T := TX1) (N := 14) hx hb hts zn_X1_makeRoom_X1 hown hK hP 0 rfl rfl 3 (of_decide_eq_true rfl) (hts (.fieldLink RX1 86 "ShortEnough$FullSearch" "answers" "I") zw_X1_makeRoom_184) (fun _ h9 => h9) rfl dX1_makeRoom_44 ?_
    refine lv_imul hx hb dX1_makeRoom_47 ?_
    refine lv_icmp_ge (tgt := 63) hx hb dX1_makeRoom_48 (of_decide_eq_true rfl) (fun c_2 => ?_) (fun c_2 => ?_)
    · have hfn := (if_pos c_2).symm.trans hfn
      have ho := Option.some.inj hfn
      subst ho
      obtain ⟨hP9, hD9⟩ := zPD (ws' := [zV1 h0 r0_0 r0_1 v0_2 v0_3 r0_4 r0_5 v0_6 v0_7 v0_8 v0_9 v0_10 r0_11 r0_12 r0_13, zVi r0_4 k1 n1 f1, zVi r0_5 k2 n2 f2, zVi r0_12 k3 n3 f3, zVi r0_11 k4 n4 f4, zVi r0_13 k5 n5 f5]) hP hD [0, 1, 2, 3, 4, 5] (of_decide_eq_true rfl) rfl
      have hK9 := hK.sub (tys' := [(k1, .int), (k2, .int), (k3, .int), (k4, .int), (k5, .int)]) [0, 1, 2, 3, 4] rfl
      refine W.widen (k := 5) (n := 18432) (Nat.le_of_ble_eq_true rfl) (Nat.le_of_ble_eq_true rfl) ?_
      rw [← hQ]
      exact W.vret hx hb hr (fun t ht hW => ⟨⟨(fun k => ([r0_4, k1, r0_5, k2, r0_12, k3, r0_11, k4, r0_13, k5] : List Nat).getD k 0), rfl, trivial, by rw [ht]; exact hP9, va_K.moved hW.alike hK9, hD9⟩, hS.F ht⟩) hS.2.2 dX1_makeRoom_63
    have hfn := (if_neg c_2).symm.trans hfn
    refine lv_aload_n hx hb dX1_makeRoom_51 rfl (lv_at hl 0 rfl) ?_
    refine lv_iload_n hx hb dX1_makeRoom_52 rfl (lv_at hl 1 rfl) ?_
    refine lv_aload_n hx hb dX1_makeRoom_53 rfl (lv_at hl 0 rfl) ?_
    refine va_get (D := (dC, dI)) (ci := 1) (v := .int v0_3) (C := RX1) (T := TX1) (N := 14) hx hb hts zn_X1_makeRoom_X1 hown hK hP 0 rfl rfl 3 (of_decide_eq_true rfl) (hts (.fieldLink RX1 86 "ShortEnough$FullSearch" "answers" "I") zw_X1_makeRoom_184) (fun _ h9 => h9) rfl dX1_makeRoom_54 ?_
    refine lv_imul hx hb dX1_makeRoom_57 ?_
    obtain ⟨h_5, hfn⟩ := za_s hfn
    refine va_newa (atype := .int) (ty := .int) (N' := (p1 * v0_3).toNatClampNeg) (a0 := ((p1 * v0_3).toNatClampNeg, .inl (fun _ => 0))) hx hb (hts (.arrayClass .int) zw_X1_makeRoom_179) rfl hK hP hD hS hA (fun _ => rfl) h_5.1 rfl (Nat.le_trans (Nat.mul_le_mul_right _ h_5.2) (Nat.le_of_ble_eq_true rfl)) (Nat.le_of_ble_eq_true rfl) (Nat.le_trans (Nat.add_le_add_left h_5.2 _) (Nat.le_of_ble_eq_true rfl)) dX1_makeRoom_58 (fun q_3 a_4 H hK hP hD hS => ?_)
    refine W.widen (k := 1) (n := 14336) (Nat.le_of_ble_eq_true rfl) (Nat.add_le_add_left h_5.2 _) ?_
    have hP : va_P (dC, dI) vwCl [zV1 h0 r0_0 r0_1 v0_2 v0_3 r0_4 r0_5 v0_6 v0_7 v0_8 v0_9 v0_10 r0_11 r0_12 r0_13, zVi r0_4 k1 n1 f1, zVi r0_5 k2 n2 f2, zVi r0_12 k3 n3 f3, zVi r0_11 k4 n4 f4, zVi r0_13 k5 n5 f5, (q_3, .inl (a_4, (p1 * v0_3).toNatClampNeg, .inl (fun _ => 0)))] H := hP
    have hD := zDW hD hP rfl
    have hK : va_K (dC, dI) vwCl [(k1, .int), (k2, .int), (k3, .int), (k4, .int), (k5, .int), (a_4, .int)] s := hK
    refine va_put (D := (dC, dI)) (ci := 1) (v := .ref q_3) (ty := .array .int) (C := RX1) (T := TX1) (N := 14) hx hb hts zn_X1_makeRoom_X1 tyX1 tyX1_ok nmX1 hown hK hP hD hS 0 rfl rfl 5 (of_decide_eq_true rfl) (hts (.fieldLink RX1 25 "ShortEnough$FullSearch" "errors" "[I") zw_X1_makeRoom_183) (fun _ h9 => h9) rfl (tyX1_ok 5 (of_decide_eq_true rfl)) rfl rfl (Nat.le_of_ble_eq_true rfl) dX1_makeRoom_60 (fun H locs hP hD hS => ?_)
    have hP : va_P (dC, dI) vwCl [zV1 h0 r0_0 r0_1 v0_2 v0_3 r0_4 q_3 v0_6 v0_7 v0_8 v0_9 v0_10 r0_11 r0_12 r0_13, zVi r0_4 k1 n1 f1, zVi r0_5 k2 n2 f2, zVi r0_12 k3 n3 f3, zVi r0_11 k4 n4 f4, zVi r0_13 k5 n5 f5, (q_3, .inl (a_4, (p1 * v0_3).toNatClampNeg, .inl (fun _ => 0)))] H := hP
    have hD := zDW hD hP rfl
    have ho := Option.some.inj hfn
    subst ho
    obtain ⟨hP9, hD9⟩ := zPD (ws' := [zV1 h0 r0_0 r0_1 v0_2 v0_3 r0_4 q_3 v0_6 v0_7 v0_8 v0_9 v0_10 r0_11 r0_12 r0_13, zVi r0_4 k1 n1 f1, (q_3, .inl (a_4, (p1 * v0_3).toNatClampNeg, .inl (fun _ => 0))), zVi r0_12 k3 n3 f3, zVi r0_11 k4 n4 f4, zVi r0_13 k5 n5 f5]) hP hD [0, 1, 6, 3, 4, 5] (of_decide_eq_true rfl) rfl
    have hK9 := hK.sub (tys' := [(k1, .int), (a_4, .int), (k3, .int), (k4, .int), (k5, .int)]) [0, 5, 2, 3, 4] rfl
    refine W.widen (k := 5) (n := 18432) (Nat.le_of_ble_eq_true rfl) (Nat.le_of_ble_eq_true rfl) ?_
    rw [← hQ]
    exact W.vret hx hb hr (fun t ht hW => ⟨⟨(fun k => ([r0_4, k1, q_3, a_4, r0_12, k3, r0_11, k4, r0_13, k5] : List Nat).getD k 0), rfl, trivial, by rw [ht]; exact hP9, va_K.moved hW.alike hK9, hD9⟩, hS.F ht⟩) hS.2.2 dX1_makeRoom_63
  have hfn := (if_neg c_1).symm.trans hfn
  refine lv_aload_n hx hb dX1_makeRoom_9 rfl (lv_at hl 0 rfl) ?_
  refine lv_iload_n hx hb dX1_makeRoom_10 rfl (lv_at hl 1 rfl) ?_
  obtain ⟨h_8, hfn⟩ := za_s hfn
  refine va_newa (atype := .int) (ty := .int) (N' := p1.toNatClampNeg) (a0 := (p1.toNatClampNeg, .inl (fun _ => 0))) hx hb (hts (.arrayClass .int) zw_X1_makeRoom_179) rfl hK hP hD hS hA (fun _ => rfl) h_8.1 rfl (Nat.le_trans (Nat.mul_le_mul_right _ h_8.2) (Nat.le_of_ble_eq_true rfl)) (Nat.le_of_ble_eq_true rfl) (Nat.le_trans (Nat.add_le_add_left h_8.2 _) (Nat.le_of_ble_eq_true rfl)) dX1_makeRoom_11 (fun q_6 a_7 H hK hP hD hS => ?_)
  refine W.widen (k := 1) (n := 1024) (Nat.le_of_ble_eq_true rfl) (Nat.add_le_add_left h_8.2 _) ?_
  have hP : va_P (dC, dI) vwCl [zV1 h0 r0_0 r0_1 v0_2 v0_3 r0_4 r0_5 v0_6 v0_7 v0_8 v0_9 v0_10 r0_11 r0_12 r0_13, zVi r0_4 k1 n1 f1, zVi r0_5 k2 n2 f2, zVi r0_12 k3 n3 f3, zVi r0_11 k4 n4 f4, zVi r0_13 k5 n5 f5, zVi q_6 a_7 p1.toNatClampNeg (fun _ => 0)] H := hP
  have hD := zDW hD hP rfl
  have hK : va_K (dC, dI) vwCl [(k1, .int), (k2, .int), (k3, .int), (k4, .int), (k5, .int), (a_7, .int)] s := hK
  refine va_put (D := (dC, dI)) (ci := 1) (v := .ref q_6) (ty := .array .int) (C := RX1) (T := TX1) (N := 14) hx hb hts zn_X1_makeRoom_X1 tyX1 tyX1_ok nmX1 hown hK hP hD hS 0 rfl rfl 4 (of_decide_eq_true rfl) (hts (.fieldLink RX1 22 "ShortEnough$FullSearch" "prices" "[I") zw_X1_makeRoom_178) (fun _ h9 => h9) rfl (tyX1_ok 4 (of_decide_eq_true rfl)) rfl rfl (Nat.le_of_ble_eq_true rfl) dX1_makeRoom_13 (fun H locs hP hD hS => ?_)
  have hP : va_P (dC, dI) vwCl [zV1 h0 r0_0 r0_1 v0_2 v0_3 q_6 r0_5 v0_6 v0_7 v0_8 v0_9 v0_10 r0_11 r0_12 r0_13, zVi r0_4 k1 n1 f1, zVi r0_5 k2 n2 f2, zVi r0_12 k3 n3 f3, zVi r0_11 k4 n4 f4, zVi r0_13 k5 n5 f5, zVi q_6 a_7 p1.toNatClampNeg (fun _ => 0)] H := hP
  have hD := zDW hD hP rfl
  refine lv_aload_n hx hb dX1_makeRoom_16 rfl (lv_at hl 0 rfl) ?_
  refine lv_iload_n hx hb dX1_makeRoom_17 rfl (lv_at hl 1 rfl) ?_
  obtain ⟨h_11, hfn⟩ := za_s hfn
  refine va_newa (atype := .int) (ty := .int) (N' := p1.toNatClampNeg) (a0 := (p1.toNatClampNeg, .inl (fun _ => 0))) hx hb (hts (.arrayClass .int) zw_X1_makeRoom_179) rfl hK hP hD hS hA (fun _ => rfl) h_11.1 rfl (Nat.le_trans (Nat.mul_le_mul_right _ h_11.2) (Nat.le_of_ble_eq_true rfl)) (Nat.le_of_ble_eq_true rfl) (Nat.le_trans (Nat.add_le_add_left h_11.2 _) (Nat.le_of_ble_eq_true rfl)) dX1_makeRoom_18 (fun q_9 a_10 H hK hP hD hS => ?_)
  refine W.widen (k := 2) (n := 2048) (Nat.le_of_ble_eq_true rfl) (Nat.add_le_add_left h_11.2 _) ?_
  have hP : va_P (dC, dI) vwCl [zV1 h0 r0_0 r0_1 v0_2 v0_3 q_6 r0_5 v0_6 v0_7 v0_8 v0_9 v0_10 r0_11 r0_12 r0_13, zVi r0_4 k1 n1 f1, zVi r0_5 k2 n2 f2, zVi r0_12 k3 n3 f3, zVi r0_11 k4 n4 f4, zVi r0_13 k5 n5 f5, zVi q_6 a_7 p1.toNatClampNeg (fun _ => 0), zVi q_9 a_10 p1.toNatClampNeg (fun _ => 0)] H := hP
  have hD := zDW hD hP rfl
  have hK : va_K (dC, dI) vwCl [(k1, .int), (k2, .int), (k3, .int), (k4, .int), (k5, .int), (a_7, .int), (a_10, .int)] s := hK
  refine va_put (D := (dC, dI)) (ci := 1) (v := .ref q_9) (ty := .array .int) (C := RX1) (T := TX1) (N := 14) hx hb hts zn_X1_makeRoom_X1 tyX1 tyX1_ok nmX1 hown hK hP hD hS 0 rfl rfl 11 (of_decide_eq_true rfl) (hts (.fieldLink RX1 35 "ShortEnough$FullSearch" "frontPrice" "[I") zw_X1_makeRoom_180) (fun _ h9 => h9) rfl (tyX1_ok 11 (of_decide_eq_true rfl)) rfl rfl (Nat.le_of_ble_eq_true rfl) dX1_makeRoom_20 (fun H locs hP hD hS => ?_)
  have hP : va_P (dC, dI) vwCl [zV1 h0 r0_0 r0_1 v0_2 v0_3 q_6 r0_5 v0_6 v0_7 v0_8 v0_9 v0_10 q_9 r0_12 r0_13, zVi r0_4 k1 n1 f1, zVi r0_5 k2 n2 f2, zVi r0_12 k3 n3 f3, zVi r0_11 k4 n4 f4, zVi r0_13 k5 n5 f5, zVi q_6 a_7 p1.toNatClampNeg (fun _ => 0), zVi q_9 a_10 p1.toNatClampNeg (fun _ => 0)] H := hP
  have hD := zDW hD hP rfl
  refine lv_aload_n hx hb dX1_makeRoom_23 rfl (lv_at hl 0 rfl) ?_
  refine lv_iload_n hx hb dX1_makeRoom_24 rfl (lv_at hl 1 rfl) ?_
  obtain ⟨h_14, hfn⟩ := za_s hfn
  refine va_newa (atype := .int) (ty := .int) (N' := p1.toNatClampNeg) (a0 := (p1.toNatClampNeg, .inl (fun _ => 0))) hx hb (hts (.arrayClass .int) zw_X1_makeRoom_179) rfl hK hP hD hS hA (fun _ => rfl) h_14.1 rfl (Nat.le_trans (Nat.mul_le_mul_right _ h_14.2) (Nat.le_of_ble_eq_true rfl)) (Nat.le_of_ble_eq_true rfl) (Nat.le_trans (Nat.add_le_add_left h_14.2 _) (Nat.le_of_ble_eq_true rfl)) dX1_makeRoom_25 (fun q_12 a_13 H hK hP hD hS => ?_)
  refine W.widen (k := 3) (n := 3072) (Nat.le_of_ble_eq_true rfl) (Nat.add_le_add_left h_14.2 _) ?_
  have hP : va_P (dC, dI) vwCl [zV1 h0 r0_0 r0_1 v0_2 v0_3 q_6 r0_5 v0_6 v0_7 v0_8 v0_9 v0_10 q_9 r0_12 r0_13, zVi r0_4 k1 n1 f1, zVi r0_5 k2 n2 f2, zVi r0_12 k3 n3 f3, zVi r0_11 k4 n4 f4, zVi r0_13 k5 n5 f5, zVi q_6 a_7 p1.toNatClampNeg (fun _ => 0), zVi q_9 a_10 p1.toNatClampNeg (fun _ => 0), zVi q_12 a_13 p1.toNatClampNeg (fun _ => 0)] H := hP
  have hD := zDW hD hP rfl
  have hK : va_K (dC, dI) vwCl [(k1, .int), (k2, .int), (k3, .int), (k4, .int), (k5, .int), (a_7, .int), (a_10, .int), (a_13, .int)] s := hK
  refine va_put (D := (dC, dI)) (ci := 1) (v := .ref q_12) (ty := .array .int) (C := RX1) (T := TX1) (N := 14) hx hb hts zn_X1_makeRoom_X1 tyX1 tyX1_ok nmX1 hown hK hP hD hS 0 rfl rfl 12 (of_decide_eq_true rfl) (hts (.fieldLink RX1 38 "ShortEnough$FullSearch" "frontError" "[I") zw_X1_makeRoom_181) (fun _ h9 => h9) rfl (tyX1_ok 12 (of_decide_eq_true rfl)) rfl rfl (Nat.le_of_ble_eq_true rfl) dX1_makeRoom_27 (fun H locs hP hD hS => ?_)
  have hP : va_P (dC, dI) vwCl [zV1 h0 r0_0 r0_1 v0_2 v0_3 q_6 r0_5 v0_6 v0_7 v0_8 v0_9 v0_10 q_9 q_12 r0_13, zVi r0_4 k1 n1 f1, zVi r0_5 k2 n2 f2, zVi r0_12 k3 n3 f3, zVi r0_11 k4 n4 f4, zVi r0_13 k5 n5 f5, zVi q_6 a_7 p1.toNatClampNeg (fun _ => 0), zVi q_9 a_10 p1.toNatClampNeg (fun _ => 0), zVi q_12 a_13 p1.toNatClampNeg (fun _ => 0)] H := hP
  have hD := zDW hD hP rfl
  refine lv_aload_n hx hb dX1_makeRoom_30 rfl (lv_at hl 0 rfl) ?_
  refine lv_iload_n hx hb dX1_makeRoom_31 rfl (lv_at hl 1 rfl) ?_
  obtain ⟨h_17, hfn⟩ := za_s hfn
  refine va_newa (atype := .int) (ty := .int) (N' := p1.toNatClampNeg) (a0 := (p1.toNatClampNeg, .inl (fun _ => 0))) hx hb (hts (.arrayClass .int) zw_X1_makeRoom_179) rfl hK hP hD hS hA (fun _ => rfl) h_17.1 rfl (Nat.le_trans (Nat.mul_le_mul_right _ h_17.2) (Nat.le_of_ble_eq_true rfl)) (Nat.le_of_ble_eq_true rfl) (Nat.le_trans (Nat.add_le_add_left h_17.2 _) (Nat.le_of_ble_eq_true rfl)) dX1_makeRoom_32 (fun q_15 a_16 H hK hP hD hS => ?_)
  refine W.widen (k := 4) (n := 4096) (Nat.le_of_ble_eq_true rfl) (Nat.add_le_add_left h_17.2 _) ?_
  have hP : va_P (dC, dI) vwCl [zV1 h0 r0_0 r0_1 v0_2 v0_3 q_6 r0_5 v0_6 v0_7 v0_8 v0_9 v0_10 q_9 q_12 r0_13, zVi r0_4 k1 n1 f1, zVi r0_5 k2 n2 f2, zVi r0_12 k3 n3 f3, zVi r0_11 k4 n4 f4, zVi r0_13 k5 n5 f5, zVi q_6 a_7 p1.toNatClampNeg (fun _ => 0), zVi q_9 a_10 p1.toNatClampNeg (fun _ => 0), zVi q_12 a_13 p1.toNatClampNeg (fun _ => 0), zVi q_15 a_16 p1.toNatClampNeg (fun _ => 0)] H := hP
  have hD := zDW hD hP rfl
  have hK : va_K (dC, dI) vwCl [(k1, .int), (k2, .int), (k3, .int), (k4, .int), (k5, .int), (a_7, .int), (a_10, .int), (a_13, .int), (a_16, .int)] s := hK
  refine va_put (D := (dC, dI)) (ci := 1) (v := .ref q_15) (ty := .array .int) (C := RX1) (T := TX1) (N := 14) hx hb hts zn_X1_makeRoom_X1 tyX1 tyX1_ok nmX1 hown hK hP hD hS 0 rfl rfl 13 (of_decide_eq_true rfl) (hts (.fieldLink RX1 41 "ShortEnough$FullSearch" "frontMany" "[I") zw_X1_makeRoom_182) (fun _ h9 => h9) rfl (tyX1_ok 13 (of_decide_eq_true rfl)) rfl rfl (Nat.le_of_ble_eq_true rfl) dX1_makeRoom_34 (fun H locs hP hD hS => ?_)
  have hP : va_P (dC, dI) vwCl [zV1 h0 r0_0 r0_1 v0_2 v0_3 q_6 r0_5 v0_6 v0_7 v0_8 v0_9 v0_10 q_9 q_12 q_15, zVi r0_4 k1 n1 f1, zVi r0_5 k2 n2 f2, zVi r0_12 k3 n3 f3, zVi r0_11 k4 n4 f4, zVi r0_13 k5 n5 f5, zVi q_6 a_7 p1.toNatClampNeg (fun _ => 0), zVi q_9 a_10 p1.toNatClampNeg (fun _ => 0), zVi q_12 a_13 p1.toNatClampNeg (fun _ => 0), zVi q_15 a_16 p1.toNatClampNeg (fun _ => 0)] H := hP
  have hD := zDW hD hP rfl
  refine lv_aload_n hx hb dX1_makeRoom_37 rfl (lv_at hl 0 rfl) ?_
  refine va_get (D := (dC, dI)) (ci := 1) (v := .ref r0_5) (C := RX1) (T := TX1) (N := 14) hx hb hts zn_X1_makeRoom_X1 hown hK hP 0 rfl rfl 5 (of_decide_eq_true rfl) (hts (.fieldLink RX1 25 "ShortEnough$FullSearch" "errors" "[I") zw_X1_makeRoom_183) (fun _ h9 => h9) rfl dX1_makeRoom_38 ?_
  refine va_alen (v := (Int32.ofNat n2)) hx hb hK hP 2 1 rfl rfl rfl dX1_makeRoom_41 ?_
  refine lv_iload_n hx hb dX1_makeRoom_42 rfl (lv_at hl 1 rfl) ?_
  refine lv_aload_n hx hb dX1_makeRoom_43 rfl (lv_at hl 0 rfl) ?_
  refine va_get (D := (dC, dI)) (ci := 1) (v := .int v0_3) (C := RX1) (T := TX1) (N := 14) hx hb hts zn_X1_makeRoom_X1 hown hK hP 0 rfl rfl 3 (of_decide_eq_true rfl) (hts (.fieldLink RX1 86 "ShortEnough$FullSearch" "answers" "I") zw_X1_makeRoom_184) (fun _ h9 => h9) rfl dX1_makeRoom_44 ?_
  refine lv_imul hx hb dX1_makeRoom_47 ?_
  refine lv_icmp_ge (tgt := 63) hx hb dX1_makeRoom_48 (of_decide_eq_true rfl) (fun c_18 => ?_) (fun c_18 => ?_)
  · have hfn := (if_pos c_18).symm.trans hfn
    have ho := Option.some.inj hfn
    subst ho
    obtain ⟨hP9, hD9⟩ := zPD (ws' := [zV1 h0 r0_0 r0_1 v0_2 v0_3 q_6 r0_5 v0_6 v0_7 v0_8 v0_9 v0_10 q_9 q_12 q_15, zVi q_6 a_7 p1.toNatClampNeg (fun _ => 0), zVi r0_5 k2 n2 f2, zVi q_12 a_13 p1.toNatClampNeg (fun _ => 0), zVi q_9 a_10 p1.toNatClampNeg (fun _ => 0), zVi q_15 a_16 p1.toNatClampNeg (fun _ => 0)]) hP hD [0, 6, 2, 8, 7, 9] (of_decide_eq_true rfl) rfl
    have hK9 := hK.sub (tys' := [(a_7, .int), (k2, .int), (a_13, .int), (a_10, .int), (a_16, .int)]) [5, 1, 7, 6, 8] rfl
    refine W.widen (k := 5) (n := 18432) (Nat.le_of_ble_eq_true rfl) (Nat.le_of_ble_eq_true rfl) ?_
    rw [← hQ]
    exact W.vret hx hb hr (fun t ht hW => ⟨⟨(fun k => ([q_6, a_7, r0_5, k2, q_12, a_13, q_9, a_10, q_15, a_16] : List Nat).getD k 0), rfl, trivial, by rw [ht]; exact hP9, va_K.moved hW.alike hK9, hD9⟩, hS.F ht⟩) hS.2.2 dX1_makeRoom_63
  have hfn := (if_neg c_18).symm.trans hfn
  refine lv_aload_n hx hb dX1_makeRoom_51 rfl (lv_at hl 0 rfl) ?_
  refine lv_iload_n hx hb dX1_makeRoom_52 rfl (lv_at hl 1 rfl) ?_
  refine lv_aload_n hx hb dX1_makeRoom_53 rfl (lv_at hl 0 rfl) ?_
  refine va_get (D := (dC, dI)) (ci := 1) (v := .int v0_3) (C := RX1) (T := TX1) (N := 14) hx hb hts zn_X1_makeRoom_X1 hown hK hP 0 rfl rfl 3 (of_decide_eq_true rfl) (hts (.fieldLink RX1 86 "ShortEnough$FullSearch" "answers" "I") zw_X1_makeRoom_184) (fun _ h9 => h9) rfl dX1_makeRoom_54 ?_
  refine lv_imul hx hb dX1_makeRoom_57 ?_
  obtain ⟨h_21, hfn⟩ := za_s hfn
  refine va_newa (atype := .int) (ty := .int) (N' := (p1 * v0_3).toNatClampNeg) (a0 := ((p1 * v0_3).toNatClampNeg, .inl (fun _ => 0))) hx hb (hts (.arrayClass .int) zw_X1_makeRoom_179) rfl hK hP hD hS hA (fun _ => rfl) h_21.1 rfl (Nat.le_trans (Nat.mul_le_mul_right _ h_21.2) (Nat.le_of_ble_eq_true rfl)) (Nat.le_of_ble_eq_true rfl) (Nat.le_trans (Nat.add_le_add_left h_21.2 _) (Nat.le_of_ble_eq_true rfl)) dX1_makeRoom_58 (fun q_19 a_20 H hK hP hD hS => ?_)
  refine W.widen (k := 5) (n := 18432) (Nat.le_of_ble_eq_true rfl) (Nat.add_le_add_left h_21.2 _) ?_
  have hP : va_P (dC, dI) vwCl [zV1 h0 r0_0 r0_1 v0_2 v0_3 q_6 r0_5 v0_6 v0_7 v0_8 v0_9 v0_10 q_9 q_12 q_15, zVi r0_4 k1 n1 f1, zVi r0_5 k2 n2 f2, zVi r0_12 k3 n3 f3, zVi r0_11 k4 n4 f4, zVi r0_13 k5 n5 f5, zVi q_6 a_7 p1.toNatClampNeg (fun _ => 0), zVi q_9 a_10 p1.toNatClampNeg (fun _ => 0), zVi q_12 a_13 p1.toNatClampNeg (fun _ => 0), zVi q_15 a_16 p1.toNatClampNeg (fun _ => 0), (q_19, .inl (a_20, (p1 * v0_3).toNatClampNeg, .inl (fun _ => 0)))] H := hP
  have hD := zDW hD hP rfl
  have hK : va_K (dC, dI) vwCl [(k1, .int), (k2, .int), (k3, .int), (k4, .int), (k5, .int), (a_7, .int), (a_10, .int), (a_13, .int), (a_16, .int), (a_20, .int)] s := hK
  refine va_put (D := (dC, dI)) (ci := 1) (v := .ref q_19) (ty := .array .int) (C := RX1) (T := TX1) (N := 14) hx hb hts zn_X1_makeRoom_X1 tyX1 tyX1_ok nmX1 hown hK hP hD hS 0 rfl rfl 5 (of_decide_eq_true rfl) (hts (.fieldLink RX1 25 "ShortEnough$FullSearch" "errors" "[I") zw_X1_makeRoom_183) (fun _ h9 => h9) rfl (tyX1_ok 5 (of_decide_eq_true rfl)) rfl rfl (Nat.le_of_ble_eq_true rfl) dX1_makeRoom_60 (fun H locs hP hD hS => ?_)
  have hP : va_P (dC, dI) vwCl [zV1 h0 r0_0 r0_1 v0_2 v0_3 q_6 q_19 v0_6 v0_7 v0_8 v0_9 v0_10 q_9 q_12 q_15, zVi r0_4 k1 n1 f1, zVi r0_5 k2 n2 f2, zVi r0_12 k3 n3 f3, zVi r0_11 k4 n4 f4, zVi r0_13 k5 n5 f5, zVi q_6 a_7 p1.toNatClampNeg (fun _ => 0), zVi q_9 a_10 p1.toNatClampNeg (fun _ => 0), zVi q_12 a_13 p1.toNatClampNeg (fun _ => 0), zVi q_15 a_16 p1.toNatClampNeg (fun _ => 0), (q_19, .inl (a_20, (p1 * v0_3).toNatClampNeg, .inl (fun _ => 0)))] H := hP
  have hD := zDW hD hP rfl
  have ho := Option.some.inj hfn
  subst ho
  obtain ⟨hP9, hD9⟩ := zPD (ws' := [zV1 h0 r0_0 r0_1 v0_2 v0_3 q_6 q_19 v0_6 v0_7 v0_8 v0_9 v0_10 q_9 q_12 q_15, zVi q_6 a_7 p1.toNatClampNeg (fun _ => 0), (q_19, .inl (a_20, (p1 * v0_3).toNatClampNeg, .inl (fun _ => 0))), zVi q_12 a_13 p1.toNatClampNeg (fun _ => 0), zVi q_9 a_10 p1.toNatClampNeg (fun _ => 0), zVi q_15 a_16 p1.toNatClampNeg (fun _ => 0)]) hP hD [0, 6, 10, 8, 7, 9] (of_decide_eq_true rfl) rfl
  have hK9 := hK.sub (tys' := [(a_7, .int), (a_20, .int), (a_13, .int), (a_10, .int), (a_16, .int)]) [5, 9, 7, 6, 8] rfl
  refine W.widen (k := 5) (n := 18432) (Nat.le_of_ble_eq_true rfl) (Nat.le_of_ble_eq_true rfl) ?_
  rw [← hQ]
  exact W.vret hx hb hr (fun t ht hW => ⟨⟨(fun k => ([q_6, a_7, q_19, a_20, q_12, a_13, q_9, a_10, q_15, a_16] : List Nat).getD k 0), rfl, trivial, by rw [ht]; exact hP9, va_K.moved hW.alike hK9, hD9⟩, hS.F ht⟩) hS.2.2 dX1_makeRoom_63
theorem zn_X1_unfold_X9 : ∀ w ∈ wsX90, w ∈ wsX1_unfold := fun _ h => List.mem_cons_of_mem _ (List.mem_append_left _ (List.mem_append_right _ h))
theorem zw_X1_unfold_187 : Cond.fieldLink RX1 59 "ShortEnough$Task" "groups" "LShortEnough$Groups;" ∈ wsX1_unfold := List.mem_of_getElem? (i := 1) (by decide +kernel)
theorem zn_X1_unfold_X2 : ∀ w ∈ wsX20, w ∈ wsX1_unfold := fun _ h => List.mem_cons_of_mem _ (List.mem_append_right _ h)
theorem zw_X1_unfold_189 : Cond.fieldLink RX1 113 "ShortEnough$Groups" "count" "I" ∈ wsX1_unfold := List.mem_of_getElem? (i := 2) (by decide +kernel)
theorem zw_X1_unfold_190 : Cond.fieldLink RX1 114 "ShortEnough$Groups" "fixedAs" "[I" ∈ wsX1_unfold := List.mem_of_getElem? (i := 3) (by decide +kernel)
theorem zw_X1_unfold_191 : Cond.fieldLink RX1 79 "ShortEnough$Task" "formats" "I" ∈ wsX1_unfold := List.mem_of_getElem? (i := 4) (by decide +kernel)
set_option maxHeartbeats 4000000 in
set_option maxRecDepth 100000 in
theorem zf_X1_unfold (l : Launch) (dC : Nat → ClassId) (dI : Nat → Nat → Nat) (h0 : Nat) (p1 : Int32) (h2 : Nat) (v0_0 : Int32) (r0_1 : Nat) (r0_2 : Nat) (r0_3 : Nat) (r0_4 : Nat) (v0_5 : Int32) (r0_6 : Nat) (r0_7 : Nat) (r0_8 : Nat) (v1_0 : Int32) (v1_1 : Int32) (v1_2 : Int32) (r1_3 : Nat) (r1_4 : Nat) (r1_5 : Nat) (k2 : Nat) (f2 : Nat → Int32) (k3 : Nat) (f3 : Nat → Int32) (o : (Nat → Int32)) (hfn : fn_X1_unfold p1 v0_0 v1_0 f2 f3 = some o) (sz : Nat) : zMv l yX1_unfold wsX1_unfold ({ frames := 0, cells := 0, slots := 0, locals := 0 }) (dC, dI) vwCl [.ref h0, .int p1, .ref h2] [zV9 h0 v0_0 r0_1 r0_2 r0_3 r0_4 v0_5 r0_6 r0_7 r0_8, zV2 r0_7 v1_0 v1_1 v1_2 r1_3 r1_4 r1_5, zVi r1_4 k2 14 f2, zVi h2 k3 14 f3] [(k2, .int), (k3, .int)] (fun _ => True) [zV9 h0 v0_0 r0_1 r0_2 r0_3 r0_4 v0_5 r0_6 r0_7 r0_8, zV2 r0_7 v1_0 v1_1 v1_2 r1_3 r1_4 r1_5, zVi r1_4 k2 14 f2, zVi h2 k3 14 o] [(k2, .int), (k3, .int)] sz := by
  refine zgov (cc := cX1_unfold) (maxL := 6) (ret := none) (C0 := RX1) (lv0 := [(0, .ref h0), (1, .int p1), (2, .ref h2)]) zpl_X1 rfl rfl rfl (Nat.le_of_ble_eq_true rfl) ?_
  intro p e s m below meth c A ls Q hx hb hr hts hown hlocks hml hP hK hD hA hS hl hQ
  unfold fn_X1_unfold at hfn
  refine lv_iload_n hx hb dX1_unfold_0 rfl (lv_at hl 1 rfl) ?_
  refine lv_istore_n (lv' := [(3, .int p1), (0, .ref h0), (1, .int p1), (2, .ref h2)]) hx hb dX1_unfold_1 rfl hl (of_decide_eq_true rfl) rfl (fun ls hl => ?_)
  refine lv_aload_n hx hb dX1_unfold_2 rfl (lv_at hl 1 rfl) ?_
  refine va_get (D := (dC, dI)) (ci := 9) (v := .ref r0_7) (C := RX9) (T := TX9) (N := 9) hx hb hts zn_X1_unfold_X9 hown hK hP 0 rfl rfl 7 (of_decide_eq_true rfl) (hts (.fieldLink RX1 59 "ShortEnough$Task" "groups" "LShortEnough$Groups;") zw_X1_unfold_187) (fun _ h9 => h9) rfl dX1_unfold_3 ?_
  refine va_get (D := (dC, dI)) (ci := 2) (v := .int v1_0) (C := RX2) (T := TX2) (N := 6) hx hb hts zn_X1_unfold_X2 hown hK hP 1 rfl rfl 0 (of_decide_eq_true rfl) (hts (.fieldLink RX1 113 "ShortEnough$Groups" "count" "I") zw_X1_unfold_189) (fun _ h9 => h9) rfl dX1_unfold_6 ?_
  refine lv_iconst (v := 1) hx hb dX1_unfold_9 zci_1 ?_
  refine lv_isub hx hb dX1_unfold_10 ?_
  refine lv_istore (lv' := [(4, .int (v1_0 - 1)), (3, .int p1), (0, .ref h0), (1, .int p1), (2, .ref h2)]) hx hb dX1_unfold_11 hl (of_decide_eq_true rfl) rfl (fun ls hl => ?_)
  obtain ⟨bd_1, ebd_1, hfn⟩ := zl_g hfn
  have lp_1 : ∀ (n : Nat) (s_1 : Int32 × Int32 × (Nat → Int32)) (H : Heap) (locs : List Loc) (ls : Array Slot), zl bd_1 n s_1 = some o → va_P (dC, dI) vwCl [zV9 h0 v0_0 r0_1 r0_2 r0_3 r0_4 v0_5 r0_6 r0_7 r0_8, zV2 r0_7 v1_0 v1_1 v1_2 r1_3 r1_4 r1_5, zVi r1_4 k2 14 f2, zVi h2 k3 14 s_1.2.2] H → va_D A [zV9 h0 v0_0 r0_1 r0_2 r0_3 r0_4 v0_5 r0_6 r0_7 r0_8, zV2 r0_7 v1_0 v1_1 v1_2 r1_3 r1_4 r1_5, zVi r1_4 k2 14 f2, zVi h2 k3 14 s_1.2.2] → va_S A s.heap H locs → lv_has ls 6 [(4, .int s_1.2.1), (3, .int s_1.1), (0, .ref h0), (2, .ref h2)] → W p l e (headSpec wsX1_unfold ({ frames := 0, cells := 0, slots := 0, locals := 0 })).room s m ([.ref h0, .int p1, .ref h2] : List Value).toArray below meth c H locs 0 0 Q (F0 m 13 ls []) := by
    intro n
    induction n with
    | zero => exact fun _ _ _ _ hfn => (zl_0 hfn).elim
    | succ n ih_1 =>
      intro s_1 H locs ls hfn hP hD hS hl
      have hfn := zl_s ebd_1 hfn
      refine lv_iload hx hb dX1_unfold_13 (lv_at hl 0 rfl) ?_
      refine lv_if_lt (tgt := 72) hx hb dX1_unfold_15 (of_decide_eq_true rfl) (fun c_2 => ?_) (fun c_2 => ?_)
      · have hfn := (if_pos c_2).symm.trans hfn
        have ho := Option.some.inj hfn
        subst ho
        exact zrv hx hb hr hK hP hD hS hQ trivial hlocks dX1_unfold_72
      have hfn := (if_neg c_2).symm.trans hfn
      refine lv_aload_n hx hb dX1_unfold_18 rfl (lv_at hl 2 rfl) ?_
      refine va_get (D := (dC, dI)) (ci := 9) (v := .ref r0_7) (C := RX9) (T := TX9) (N := 9) hx hb hts zn_X1_unfold_X9 hown hK hP 0 rfl rfl 7 (of_decide_eq_true rfl) (hts (.fieldLink RX1 59 "ShortEnough$Task" "groups" "LShortEnough$Groups;") zw_X1_unfold_187) (fun _ h9 => h9) rfl dX1_unfold_19 ?_
      refine va_get (D := (dC, dI)) (ci := 2) (v := .ref r1_4) (C := RX2) (T := TX2) (N := 6) hx hb hts zn_X1_unfold_X2 hown hK hP 1 rfl rfl 4 (of_decide_eq_true rfl) (hts (.fieldLink RX1 114 "ShortEnough$Groups" "fixedAs" "[I") zw_X1_unfold_190) (fun _ h9 => h9) rfl dX1_unfold_22 ?_
      refine lv_iload hx hb dX1_unfold_25 (lv_at hl 0 rfl) ?_
      obtain ⟨h_3, hfn⟩ := zg_s hfn
      refine va_iald hx hb hK hP 2 0 rfl rfl h_3 dX1_unfold_27 ?_
      refine lv_istore (lv' := [(5, .int (f2 s_1.2.1.toNatClampNeg)), (4, .int s_1.2.1), (3, .int s_1.1), (0, .ref h0), (2, .ref h2)]) hx hb dX1_unfold_28 hl (of_decide_eq_true rfl) rfl (fun ls hl => ?_)
      refine lv_aload_n hx hb dX1_unfold_30 rfl (lv_at hl 4 rfl) ?_
      refine lv_iload hx hb dX1_unfold_31 (lv_at hl 1 rfl) ?_
      refine lv_iload hx hb dX1_unfold_33 (lv_at hl 0 rfl) ?_
      refine va_iast hx hb hK hP hD hS 3 1 rfl rfl h_3 dX1_unfold_35 (fun H locs hP hD hS => ?_)
      obtain ⟨g_4, eg_4⟩ : ∃ g : Nat → Int32, g = (upd s_1.2.2 s_1.2.1.toNatClampNeg (f2 s_1.2.1.toNatClampNeg)) := ⟨_, rfl⟩
      have hfn := zn_s hfn eg_4
      have hP : va_P (dC, dI) vwCl [zV9 h0 v0_0 r0_1 r0_2 r0_3 r0_4 v0_5 r0_6 r0_7 r0_8, zV2 r0_7 v1_0 v1_1 v1_2 r1_3 r1_4 r1_5, zVi r1_4 k2 14 f2, zVi h2 k3 14 g_4] H := by rw [eg_4]; exact hP
      have hD : va_D A [zV9 h0 v0_0 r0_1 r0_2 r0_3 r0_4 v0_5 r0_6 r0_7 r0_8, zV2 r0_7 v1_0 v1_1 v1_2 r1_3 r1_4 r1_5, zVi r1_4 k2 14 f2, zVi h2 k3 14 g_4] := by rw [eg_4]; exact hD
      refine lv_iload hx hb dX1_unfold_36 (lv_at hl 0 rfl) ?_
      refine lv_iconst (v := (-1)) hx hb dX1_unfold_38 zci_m1 ?_
      refine lv_icmp_ne (tgt := 66) hx hb dX1_unfold_39 (of_decide_eq_true rfl) (fun c_5 => ?_) (fun c_5 => ?_)
      · have hfn := (if_neg c_5).symm.trans hfn
        refine lv_iinc (v := (s_1.2.1 + (-1))) (lv' := [(4, .int (s_1.2.1 + (-1))), (5, .int (f2 s_1.2.1.toNatClampNeg)), (3, .int s_1.1), (0, .ref h0), (2, .ref h2)]) hx hb dX1_unfold_66 hl (k := 1) rfl rfl (of_decide_eq_true rfl) rfl (fun ls hl => ?_)
        refine lv_goto (tgt := 13) hx hb dX1_unfold_69 (of_decide_eq_true rfl) ?_
        exact ih_1 (s_1.1, (s_1.2.1 + (-1)), g_4) H locs ls hfn hP hD hS (lv_sub hl [0, 2, 3, 4] rfl)
      have hfn := (if_pos c_5).symm.trans hfn
      refine lv_aload_n hx hb dX1_unfold_42 rfl (lv_at hl 3 rfl) ?_
      refine va_get (D := (dC, dI)) (ci := 9) (v := .int v0_0) (C := RX9) (T := TX9) (N := 9) hx hb hts zn_X1_unfold_X9 hown hK hP 0 rfl rfl 0 (of_decide_eq_true rfl) (hts (.fieldLink RX1 79 "ShortEnough$Task" "formats" "I") zw_X1_unfold_191) (fun _ h9 => h9) rfl dX1_unfold_43 ?_
      refine lv_if_le (tgt := 66) hx hb dX1_unfold_46 (of_decide_eq_true rfl) (fun c_6 => ?_) (fun c_6 => ?_)
      · have hfn := (if_pos c_6).symm.trans hfn
        refine lv_iinc (v := (s_1.2.1 + (-1))) (lv' := [(4, .int (s_1.2.1 + (-1))), (5, .int (f2 s_1.2.1.toNatClampNeg)), (3, .int s_1.1), (0, .ref h0), (2, .ref h2)]) hx hb dX1_unfold_66 hl (k := 1) rfl rfl (of_decide_eq_true rfl) rfl (fun ls hl => ?_)
        refine lv_goto (tgt := 13) hx hb dX1_unfold_69 (of_decide_eq_true rfl) ?_
        exact ih_1 (s_1.1, (s_1.2.1 + (-1)), g_4) H locs ls hfn hP hD hS (lv_sub hl [0, 2, 3, 4] rfl)
      have hfn := (if_neg c_6).symm.trans hfn
      refine lv_aload_n hx hb dX1_unfold_49 rfl (lv_at hl 4 rfl) ?_
      refine lv_iload hx hb dX1_unfold_50 (lv_at hl 1 rfl) ?_
      refine lv_iload_n hx hb dX1_unfold_52 rfl (lv_at hl 2 rfl) ?_
      refine lv_aload_n hx hb dX1_unfold_53 rfl (lv_at hl 3 rfl) ?_
      refine va_get (D := (dC, dI)) (ci := 9) (v := .int v0_0) (C := RX9) (T := TX9) (N := 9) hx hb hts zn_X1_unfold_X9 hown hK hP 0 rfl rfl 0 (of_decide_eq_true rfl) (hts (.fieldLink RX1 79 "ShortEnough$Task" "formats" "I") zw_X1_unfold_191) (fun _ h9 => h9) rfl dX1_unfold_54 ?_
      obtain ⟨h_7, hfn⟩ := zd_s hfn
      refine lv_irem hx hb dX1_unfold_57 h_7 ?_
      refine va_iast hx hb hK hP hD hS 3 1 rfl rfl h_3 dX1_unfold_58 (fun H locs hP hD hS => ?_)
      obtain ⟨g_8, eg_8⟩ : ∃ g : Nat → Int32, g = (upd g_4 s_1.2.1.toNatClampNeg (s_1.1 - s_1.1 / v0_0 * v0_0)) := ⟨_, rfl⟩
      have hfn := zn_s hfn eg_8
      have hP : va_P (dC, dI) vwCl [zV9 h0 v0_0 r0_1 r0_2 r0_3 r0_4 v0_5 r0_6 r0_7 r0_8, zV2 r0_7 v1_0 v1_1 v1_2 r1_3 r1_4 r1_5, zVi r1_4 k2 14 f2, zVi h2 k3 14 g_8] H := by rw [eg_8]; exact hP
      have hD : va_D A [zV9 h0 v0_0 r0_1 r0_2 r0_3 r0_4 v0_5 r0_6 r0_7 r0_8, zV2 r0_7 v1_0 v1_1 v1_2 r1_3 r1_4 r1_5, zVi r1_4 k2 14 f2, zVi h2 k3 14 g_8] := by rw [eg_8]; exact hD
      refine lv_iload_n hx hb dX1_unfold_59 rfl (lv_at hl 2 rfl) ?_
      refine lv_aload_n hx hb dX1_unfold_60 rfl (lv_at hl 3 rfl) ?_
      refine va_get (D := (dC, dI)) (ci := 9) (v := .int v0_0) (C := RX9) (T := TX9) (N := 9) hx hb hts zn_X1_unfold_X9 hown hK hP 0 rfl rfl 0 (of_decide_eq_true rfl) (hts (.fieldLink RX1 79 "ShortEnough$Task" "formats" "I") zw_X1_unfold_191) (fun _ h9 => h9) rfl dX1_unfold_61 ?_
      obtain ⟨h_9, hfn⟩ := zd_s hfn
      refine lv_idiv hx hb dX1_unfold_64 h_9 ?_
      refine lv_istore_n (lv' := [(3, .int (s_1.1 / v0_0)), (5, .int (f2 s_1.2.1.toNatClampNeg)), (4, .int s_1.2.1), (0, .ref h0), (2, .ref h2)]) hx hb dX1_unfold_65 rfl hl (of_decide_eq_true rfl) rfl (fun ls hl => ?_)
      refine lv_iinc (v := (s_1.2.1 + (-1))) (lv' := [(4, .int (s_1.2.1 + (-1))), (3, .int (s_1.1 / v0_0)), (5, .int (f2 s_1.2.1.toNatClampNeg)), (0, .ref h0), (2, .ref h2)]) hx hb dX1_unfold_66 hl (k := 2) rfl rfl (of_decide_eq_true rfl) rfl (fun ls hl => ?_)
      refine lv_goto (tgt := 13) hx hb dX1_unfold_69 (of_decide_eq_true rfl) ?_
      exact ih_1 ((s_1.1 / v0_0), (s_1.2.1 + (-1)), g_8) H locs ls hfn hP hD hS (lv_sub hl [0, 1, 3, 4] rfl)
  exact lp_1 _ (p1, (v1_0 - 1), f3) s.heap [] ls hfn hP hD hS (lv_sub hl [0, 1, 2, 4] rfl)
theorem zn_X7_reckon_X7 : ∀ w ∈ wsX70, w ∈ wsX7_reckon := fun _ h => List.mem_cons_of_mem _ (List.mem_append_left _ (List.mem_append_left _ (List.mem_append_left _ (List.mem_append_left _ (List.mem_append_right _ h)))))
theorem zw_X7_reckon_195 : Cond.fieldLink RX7 15 "ShortEnough$Reckoning" "failsAt" "I" ∈ wsX7_reckon := List.mem_of_getElem? (i := 1) (by decide +kernel)
theorem zw_X7_reckon_196 : Cond.fieldLink RX7 19 "ShortEnough$Reckoning" "reason" "I" ∈ wsX7_reckon := List.mem_of_getElem? (i := 2) (by decide +kernel)
theorem zn_X7_reckon_X9 : ∀ w ∈ wsX90, w ∈ wsX7_reckon := fun _ h => List.mem_cons_of_mem _ (List.mem_append_left _ (List.mem_append_left _ (List.mem_append_left _ (List.mem_append_right _ h))))
theorem zw_X7_reckon_198 : Cond.fieldLink RX7 22 "ShortEnough$Task" "numbers" "LShortEnough$Numbers;" ∈ wsX7_reckon := List.mem_of_getElem? (i := 3) (by decide +kernel)
theorem zn_X7_reckon_X4 : ∀ w ∈ wsX40, w ∈ wsX7_reckon := fun _ h => List.mem_cons_of_mem _ (List.mem_append_left _ (List.mem_append_left _ (List.mem_append_right _ h)))
theorem zw_X7_reckon_200 : Cond.fieldLink RX7 28 "ShortEnough$Numbers" "count" "I" ∈ wsX7_reckon := List.mem_of_getElem? (i := 4) (by decide +kernel)
theorem zw_X7_reckon_201 : Cond.fieldLink RX7 9 "ShortEnough$Reckoning" "errors" "[J" ∈ wsX7_reckon := List.mem_of_getElem? (i := 5) (by decide +kernel)
theorem zw_X7_reckon_202 : Cond.fieldLink RX7 55 "ShortEnough$Numbers" "allowed" "[I" ∈ wsX7_reckon := List.mem_of_getElem? (i := 6) (by decide +kernel)
set_option maxHeartbeats 4000000 in
set_option maxRecDepth 100000 in
theorem zf_X7_reckon (l : Launch) (dC : Nat → ClassId) (dI : Nat → Nat → Nat) (h0 : Nat) (h1 : Nat) (h2 : Nat) (h3 : Nat) (r0_0 : Nat) (v0_1 : Int32) (v0_2 : Int32) (v1_0 : Int32) (r1_1 : Nat) (r1_2 : Nat) (r1_3 : Nat) (r1_4 : Nat) (v1_5 : Int32) (r1_6 : Nat) (r1_7 : Nat) (r1_8 : Nat) (v2_0 : Int32) (v2_1 : Int32) (r2_2 : Nat) (r2_3 : Nat) (r2_4 : Nat) (r2_5 : Nat) (r2_6 : Nat) (r2_7 : Nat) (r2_8 : Nat) (r2_9 : Nat) (v3_0 : Int32) (v3_1 : Int32) (v3_2 : Int32) (r3_3 : Nat) (r3_4 : Nat) (r3_5 : Nat) (k4 : Nat) (f4 : Nat → Int32) (k5 : Nat) (f5 : Nat → Int32) (k6 : Nat) (f6 : Nat → Int32) (k7 : Nat) (f7 : Nat → Int32) (k8 : Nat) (f8 : Nat → Int32) (k9 : Nat) (f9 : Nat → Int64) (k10 : Nat) (f10 : Nat → Int32) (r11_0 : Nat) (r11_1 : Nat) (r11_2 : Nat) (k12 : Nat) (f12 : Nat → Int64) (k13 : Nat) (f13 : Nat → Int64) (k14 : Nat) (f14 : Nat → Int32) (k15 : Nat) (f15 : Nat → Int32) (o : Int32 × Int32 × Int32 × (Nat → Int64)) (hfn : fn_X7_reckon v1_0 v2_0 f4 f5 f6 f7 f8 f9 f10 f12 f13 f14 f15 = some o) (sz : Nat) : zNi [(RX7, 90, yX11_divides, RX11)] l yX7_reckon wsX7_reckon ({ frames := 3, cells := 0, slots := 0, locals := 100 }) (dC, dI) vwCl [.ref h0, .ref h1, .ref h2, .ref h3] [zV7 h0 r0_0 v0_1 v0_2, zV9 h1 v1_0 r1_1 r1_2 r1_3 r1_4 v1_5 r1_6 r1_7 r1_8, zV4 r1_6 v2_0 v2_1 r2_2 r2_3 r2_4 r2_5 r2_6 r2_7 r2_8 r2_9, zV2 r1_7 v3_0 v3_1 v3_2 r3_3 r3_4 r3_5, zVi r3_3 k4 14 f4, zVi h3 k5 14 f5, zVi r1_2 k6 4 f6, zVi r2_3 k7 14 f7, zVi r2_8 k8 28 f8, zVl r0_0 k9 14 f9, zVi r2_9 k10 28 f10, zV6 h2 r11_0 r11_1 r11_2, zVl r11_0 k12 14 f12, zVl r11_1 k13 14 f13, zVi r1_3 k14 4 f14, zVi r2_5 k15 14 f15] [(k4, .int), (k5, .int), (k6, .int), (k7, .int), (k8, .int), (k9, .long), (k10, .int), (k12, .long), (k13, .long), (k14, .int), (k15, .int)] (fun r _ => r = o.1 ∧ narrow .boolean (.int o.1) = .int o.1) [zV7 h0 r0_0 o.2.1 o.2.2.1, zV9 h1 v1_0 r1_1 r1_2 r1_3 r1_4 v1_5 r1_6 r1_7 r1_8, zV4 r1_6 v2_0 v2_1 r2_2 r2_3 r2_4 r2_5 r2_6 r2_7 r2_8 r2_9, zV2 r1_7 v3_0 v3_1 v3_2 r3_3 r3_4 r3_5, zVi r3_3 k4 14 f4, zVi h3 k5 14 f5, zVi r1_2 k6 4 f6, zVi r2_3 k7 14 f7, zVi r2_8 k8 28 f8, zVl r0_0 k9 14 o.2.2.2, zVi r2_9 k10 28 f10, zV6 h2 r11_0 r11_1 r11_2, zVl r11_0 k12 14 f12, zVl r11_1 k13 14 f13, zVi r1_3 k14 4 f14, zVi r2_5 k15 14 f15] [(k4, .int), (k5, .int), (k6, .int), (k7, .int), (k8, .int), (k9, .long), (k10, .int), (k12, .long), (k13, .long), (k14, .int), (k15, .int)] sz := by
  refine zgoNi (cc := cX7_reckon) (maxL := 6) (ret := (some .boolean)) (C0 := RX7) (lv0 := [(0, .ref h0), (1, .ref h1), (2, .ref h2), (3, .ref h3)]) zpl_X7 rfl rfl rfl (Nat.le_of_ble_eq_true rfl) ?_
  intro p e s m below meth c A ls Q hN hx hb hr hts hown hlocks hml hP hK hD hA hS hl hQ
  have hn0 : va_Nw (.methodLinkNest RX7 90 yX11_divides RX11) s := hN.1
  unfold fn_X7_reckon at hfn
  refine lv_aload_n hx hb dX7_reckon_0 rfl (lv_at hl 0 rfl) ?_
  refine lv_bipush (v := (-2)) hx hb dX7_reckon_1 zcb_m2 ?_
  refine va_put (D := (dC, dI)) (ci := 7) (v := .int (-2)) (ty := .int) (C := RX7) (T := TX7) (N := 3) hx hb hts zn_X7_reckon_X7 tyX7 tyX7_ok nmX7 hown hK hP hD hS 0 rfl rfl 1 (of_decide_eq_true rfl) (hts (.fieldLink RX7 15 "ShortEnough$Reckoning" "failsAt" "I") zw_X7_reckon_195) (fun _ h9 => h9) rfl (tyX7_ok 1 (of_decide_eq_true rfl)) rfl rfl (Nat.le_of_ble_eq_true rfl) dX7_reckon_3 (fun H locs hP hD hS => ?_)
  have hP : va_P (dC, dI) vwCl [zV7 h0 r0_0 (-2) v0_2, zV9 h1 v1_0 r1_1 r1_2 r1_3 r1_4 v1_5 r1_6 r1_7 r1_8, zV4 r1_6 v2_0 v2_1 r2_2 r2_3 r2_4 r2_5 r2_6 r2_7 r2_8 r2_9, zV2 r1_7 v3_0 v3_1 v3_2 r3_3 r3_4 r3_5, zVi r3_3 k4 14 f4, zVi h3 k5 14 f5, zVi r1_2 k6 4 f6, zVi r2_3 k7 14 f7, zVi r2_8 k8 28 f8, zVl r0_0 k9 14 f9, zVi r2_9 k10 28 f10, zV6 h2 r11_0 r11_1 r11_2, zVl r11_0 k12 14 f12, zVl r11_1 k13 14 f13, zVi r1_3 k14 4 f14, zVi r2_5 k15 14 f15] H := hP
  have hD := zDW hD hP rfl
  refine lv_aload_n hx hb dX7_reckon_6 rfl (lv_at hl 0 rfl) ?_
  refine lv_iconst (v := 0) hx hb dX7_reckon_7 zci_0 ?_
  refine va_put (D := (dC, dI)) (ci := 7) (v := .int 0) (ty := .int) (C := RX7) (T := TX7) (N := 3) hx hb hts zn_X7_reckon_X7 tyX7 tyX7_ok nmX7 hown hK hP hD hS 0 rfl rfl 2 (of_decide_eq_true rfl) (hts (.fieldLink RX7 19 "ShortEnough$Reckoning" "reason" "I") zw_X7_reckon_196) (fun _ h9 => h9) rfl (tyX7_ok 2 (of_decide_eq_true rfl)) rfl rfl (Nat.le_of_ble_eq_true rfl) dX7_reckon_8 (fun H locs hP hD hS => ?_)
  have hP : va_P (dC, dI) vwCl [zV7 h0 r0_0 (-2) 0, zV9 h1 v1_0 r1_1 r1_2 r1_3 r1_4 v1_5 r1_6 r1_7 r1_8, zV4 r1_6 v2_0 v2_1 r2_2 r2_3 r2_4 r2_5 r2_6 r2_7 r2_8 r2_9, zV2 r1_7 v3_0 v3_1 v3_2 r3_3 r3_4 r3_5, zVi r3_3 k4 14 f4, zVi h3 k5 14 f5, zVi r1_2 k6 4 f6, zVi r2_3 k7 14 f7, zVi r2_8 k8 28 f8, zVl r0_0 k9 14 f9, zVi r2_9 k10 28 f10, zV6 h2 r11_0 r11_1 r11_2, zVl r11_0 k12 14 f12, zVl r11_1 k13 14 f13, zVi r1_3 k14 4 f14, zVi r2_5 k15 14 f15] H := hP
  have hD := zDW hD hP rfl
  refine lv_iconst (v := 0) hx hb dX7_reckon_11 zci_0 ?_
  refine lv_istore (lv' := [(4, .int 0), (0, .ref h0), (1, .ref h1), (2, .ref h2), (3, .ref h3)]) hx hb dX7_reckon_12 hl (of_decide_eq_true rfl) rfl (fun ls hl => ?_)
  obtain ⟨bd_1, ebd_1, hfn⟩ := zl_g hfn
  have lp_1 : ∀ (n : Nat) (s_1 : Int32 × Int32 × (Nat → Int64)) (H : Heap) (locs : List Loc) (ls : Array Slot), zl bd_1 n s_1 = some o → va_P (dC, dI) vwCl [zV7 h0 r0_0 (-2) s_1.2.1, zV9 h1 v1_0 r1_1 r1_2 r1_3 r1_4 v1_5 r1_6 r1_7 r1_8, zV4 r1_6 v2_0 v2_1 r2_2 r2_3 r2_4 r2_5 r2_6 r2_7 r2_8 r2_9, zV2 r1_7 v3_0 v3_1 v3_2 r3_3 r3_4 r3_5, zVi r3_3 k4 14 f4, zVi h3 k5 14 f5, zVi r1_2 k6 4 f6, zVi r2_3 k7 14 f7, zVi r2_8 k8 28 f8, zVl r0_0 k9 14 s_1.2.2, zVi r2_9 k10 28 f10, zV6 h2 r11_0 r11_1 r11_2, zVl r11_0 k12 14 f12, zVl r11_1 k13 14 f13, zVi r1_3 k14 4 f14, zVi r2_5 k15 14 f15] H → va_D A [zV7 h0 r0_0 (-2) s_1.2.1, zV9 h1 v1_0 r1_1 r1_2 r1_3 r1_4 v1_5 r1_6 r1_7 r1_8, zV4 r1_6 v2_0 v2_1 r2_2 r2_3 r2_4 r2_5 r2_6 r2_7 r2_8 r2_9, zV2 r1_7 v3_0 v3_1 v3_2 r3_3 r3_4 r3_5, zVi r3_3 k4 14 f4, zVi h3 k5 14 f5, zVi r1_2 k6 4 f6, zVi r2_3 k7 14 f7, zVi r2_8 k8 28 f8, zVl r0_0 k9 14 s_1.2.2, zVi r2_9 k10 28 f10, zV6 h2 r11_0 r11_1 r11_2, zVl r11_0 k12 14 f12, zVl r11_1 k13 14 f13, zVi r1_3 k14 4 f14, zVi r2_5 k15 14 f15] → va_S A s.heap H locs → lv_has ls 6 [(4, .int s_1.1), (0, .ref h0), (1, .ref h1), (2, .ref h2), (3, .ref h3)] → W p l e (headSpec wsX7_reckon ({ frames := 3, cells := 0, slots := 0, locals := 100 })).room s m ([.ref h0, .ref h1, .ref h2, .ref h3] : List Value).toArray below meth c H locs 0 0 Q (F0 m 14 ls []) := by
    intro n
    induction n with
    | zero => exact fun _ _ _ _ hfn => (zl_0 hfn).elim
    | succ n ih_1 =>
      intro s_1 H locs ls hfn hP hD hS hl
      have hfn := zl_s ebd_1 hfn
      refine lv_iload hx hb dX7_reckon_14 (lv_at hl 0 rfl) ?_
      refine lv_aload_n hx hb dX7_reckon_16 rfl (lv_at hl 2 rfl) ?_
      refine va_get (D := (dC, dI)) (ci := 9) (v := .ref r1_6) (C := RX9) (T := TX9) (N := 9) hx hb hts zn_X7_reckon_X9 hown hK hP 1 rfl rfl 6 (of_decide_eq_true rfl) (hts (.fieldLink RX7 22 "ShortEnough$Task" "numbers" "LShortEnough$Numbers;") zw_X7_reckon_198) (fun _ h9 => h9) rfl dX7_reckon_17 ?_
      refine va_get (D := (dC, dI)) (ci := 4) (v := .int v2_0) (C := RX4) (T := TX4) (N := 10) hx hb hts zn_X7_reckon_X4 hown hK hP 2 rfl rfl 0 (of_decide_eq_true rfl) (hts (.fieldLink RX7 28 "ShortEnough$Numbers" "count" "I") zw_X7_reckon_200) (fun _ h9 => h9) rfl dX7_reckon_20 ?_
      refine lv_icmp_ge (tgt := 141) hx hb dX7_reckon_23 (of_decide_eq_true rfl) (fun c_2 => ?_) (fun c_2 => ?_)
      · have hfn := (if_pos c_2).symm.trans hfn
        refine lv_iconst (v := 1) hx hb dX7_reckon_141 zci_1 ?_
        have ho := Option.some.inj hfn
        subst ho
        exact zrz hx hb hr rfl hK hP hD hS hQ ⟨rfl, zB1⟩ hlocks dX7_reckon_142
      have hfn := (if_neg c_2).symm.trans hfn
      refine lv_aload_n hx hb dX7_reckon_26 rfl (lv_at hl 1 rfl) ?_
      refine va_get (D := (dC, dI)) (ci := 7) (v := .ref r0_0) (C := RX7) (T := TX7) (N := 3) hx hb hts zn_X7_reckon_X7 hown hK hP 0 rfl rfl 0 (of_decide_eq_true rfl) (hts (.fieldLink RX7 9 "ShortEnough$Reckoning" "errors" "[J") zw_X7_reckon_201) (fun _ h9 => h9) rfl dX7_reckon_27 ?_
      refine lv_iload hx hb dX7_reckon_30 (lv_at hl 0 rfl) ?_
      refine lv_aload_n hx hb dX7_reckon_32 rfl (lv_at hl 1 rfl) ?_
      refine lv_aload_n hx hb dX7_reckon_33 rfl (lv_at hl 2 rfl) ?_
      refine lv_aload_n hx hb dX7_reckon_34 rfl (lv_at hl 3 rfl) ?_
      refine lv_aload_n hx hb dX7_reckon_35 rfl (lv_at hl 4 rfl) ?_
      refine lv_iload hx hb dX7_reckon_36 (lv_at hl 0 rfl) ?_
      obtain ⟨o_3, hqo_3, hfn⟩ := zb_s hfn
      refine zcNVl (ci := 7) (rest := [.int s_1.1, .ref r0_0]) (pc' := 41) (ws' := [zV7 h0 r0_0 (-2) s_1.2.1, zV9 h1 v1_0 r1_1 r1_2 r1_3 r1_4 v1_5 r1_6 r1_7 r1_8, zV4 r1_6 v2_0 v2_1 r2_2 r2_3 r2_4 r2_5 r2_6 r2_7 r2_8 r2_9, zV2 r1_7 v3_0 v3_1 v3_2 r3_3 r3_4 r3_5, zVi r3_3 k4 14 f4, zVi h3 k5 14 f5, zVi r1_2 k6 4 f6, zVi r2_3 k7 14 f7, zVi r2_8 k8 28 f8, zVl r0_0 k9 14 s_1.2.2, zVi r2_9 k10 28 f10, zV6 h2 r11_0 r11_1 r11_2, zVl r11_0 k12 14 f12, zVl r11_1 k13 14 f13, zVi r1_3 k14 4 f14, zVi r2_5 k15 14 f15]) hP hK hD hS hA ⟨hx, hb, hml, hown, hts⟩ (zf_X7_errorOf l dC dI h0 h1 h2 h3 s_1.1 r0_0 (-2) s_1.2.1 v1_0 r1_1 r1_2 r1_3 r1_4 v1_5 r1_6 r1_7 r1_8 v2_0 v2_1 r2_2 r2_3 r2_4 r2_5 r2_6 r2_7 r2_8 r2_9 v3_0 v3_1 v3_2 r3_3 r3_4 r3_5 k4 f4 k5 f5 k6 f6 k7 f7 k8 f8 k9 s_1.2.2 k10 f10 r11_0 r11_1 r11_2 k12 f12 k13 f13 o_3 hqo_3 H.size) ⟨hn0, trivial⟩ (cwV 4 hts gX7_reckon_X7_errorOf rfl rfl rfl zhd_X7_errorOf ⟨Nat.le_of_ble_eq_true rfl, Nat.le_of_ble_eq_true rfl⟩) [0, 1, 2, 3, 4, 5, 6, 7, 8, 9, 10, 11, 12, 13] rfl (of_decide_eq_true rfl) [0, 1, 2, 3, 4, 5, 6, 7, 8] rfl rfl rfl rfl hl.1 rfl (Nat.le_of_ble_eq_true rfl) dX7_reckon_38 ⟨Nat.le_of_ble_eq_true rfl, Nat.le_of_ble_eq_true rfl⟩ [some 0, some 1, some 2, some 3, some 4, some 5, some 6, some 7, some 8, some 9, some 10, some 11, some 12, some 13] (of_decide_eq_true rfl) (of_decide_eq_true rfl) rfl rfl rfl (fun H locs hP hD hS => ?_)
      obtain ⟨h_7, hfn⟩ := zg_s hfn
      refine va_last hx hb hK hP hD hS 9 5 rfl rfl h_7 dX7_reckon_41 (fun H locs hP hD hS => ?_)
      have hP : va_P (dC, dI) vwCl [zV7 h0 r0_0 (-2) s_1.2.1, zV9 h1 v1_0 r1_1 r1_2 r1_3 r1_4 v1_5 r1_6 r1_7 r1_8, zV4 r1_6 v2_0 v2_1 r2_2 r2_3 r2_4 r2_5 r2_6 r2_7 r2_8 r2_9, zV2 r1_7 v3_0 v3_1 v3_2 r3_3 r3_4 r3_5, zVi r3_3 k4 14 f4, zVi h3 k5 14 f5, zVi r1_2 k6 4 f6, zVi r2_3 k7 14 f7, zVi r2_8 k8 28 f8, zVl r0_0 k9 14 (vp_updL s_1.2.2 s_1.1.toNatClampNeg o_3), zVi r2_9 k10 28 f10, zV6 h2 r11_0 r11_1 r11_2, zVl r11_0 k12 14 f12, zVl r11_1 k13 14 f13, zVi r1_3 k14 4 f14, zVi r2_5 k15 14 f15] H := hP
      have hD := zDW hD hP rfl
      refine lv_aload_n hx hb dX7_reckon_42 rfl (lv_at hl 2 rfl) ?_
      refine lv_aload_n hx hb dX7_reckon_43 rfl (lv_at hl 2 rfl) ?_
      refine lv_aload_n hx hb dX7_reckon_44 rfl (lv_at hl 4 rfl) ?_
      refine lv_iload hx hb dX7_reckon_45 (lv_at hl 0 rfl) ?_
      obtain ⟨o_8, hqo_8, hfn⟩ := zb_s hfn
      refine zcVi (ci := 9) (rest := [.ref h1]) (pc' := 50) (ws' := [zV7 h0 r0_0 (-2) s_1.2.1, zV9 h1 v1_0 r1_1 r1_2 r1_3 r1_4 v1_5 r1_6 r1_7 r1_8, zV4 r1_6 v2_0 v2_1 r2_2 r2_3 r2_4 r2_5 r2_6 r2_7 r2_8 r2_9, zV2 r1_7 v3_0 v3_1 v3_2 r3_3 r3_4 r3_5, zVi r3_3 k4 14 f4, zVi h3 k5 14 f5, zVi r1_2 k6 4 f6, zVi r2_3 k7 14 f7, zVi r2_8 k8 28 f8, zVl r0_0 k9 14 (vp_updL s_1.2.2 s_1.1.toNatClampNeg o_3), zVi r2_9 k10 28 f10, zV6 h2 r11_0 r11_1 r11_2, zVl r11_0 k12 14 f12, zVl r11_1 k13 14 f13, zVi r1_3 k14 4 f14, zVi r2_5 k15 14 f15]) hP hK hD hS hA ⟨hx, hb, hml, hown, hts⟩ (zf_X9_formatOf l dC dI h1 h3 s_1.1 v1_0 r1_1 r1_2 r1_3 r1_4 v1_5 r1_6 r1_7 r1_8 v2_0 v2_1 r2_2 r2_3 r2_4 r2_5 r2_6 r2_7 r2_8 r2_9 v3_0 v3_1 v3_2 r3_3 r3_4 r3_5 k4 f4 k5 f5 o_8 hqo_8 H.size) (cwV 2 hts gX7_reckon_X9_formatOf rfl rfl rfl zhd_X9_formatOf ⟨Nat.le_of_ble_eq_true rfl, Nat.le_of_ble_eq_true rfl⟩) [1, 2, 3, 4, 5] rfl (of_decide_eq_true rfl) [0, 1] rfl rfl rfl rfl hl.1 rfl (Nat.le_of_ble_eq_true rfl) dX7_reckon_47 ⟨Nat.le_of_ble_eq_true rfl, Nat.le_of_ble_eq_true rfl⟩ [none, some 0, some 1, some 2, some 3, some 4] (of_decide_eq_true rfl) (of_decide_eq_true rfl) rfl rfl rfl (fun H locs hP hD hS => ?_)
      obtain ⟨o_12, hqo_12, hfn⟩ := zb_s hfn
      refine zcVi (ci := 9) (rest := []) (pc' := 53) (ws' := [zV7 h0 r0_0 (-2) s_1.2.1, zV9 h1 v1_0 r1_1 r1_2 r1_3 r1_4 v1_5 r1_6 r1_7 r1_8, zV4 r1_6 v2_0 v2_1 r2_2 r2_3 r2_4 r2_5 r2_6 r2_7 r2_8 r2_9, zV2 r1_7 v3_0 v3_1 v3_2 r3_3 r3_4 r3_5, zVi r3_3 k4 14 f4, zVi h3 k5 14 f5, zVi r1_2 k6 4 f6, zVi r2_3 k7 14 f7, zVi r2_8 k8 28 f8, zVl r0_0 k9 14 (vp_updL s_1.2.2 s_1.1.toNatClampNeg o_3), zVi r2_9 k10 28 f10, zV6 h2 r11_0 r11_1 r11_2, zVl r11_0 k12 14 f12, zVl r11_1 k13 14 f13, zVi r1_3 k14 4 f14, zVi r2_5 k15 14 f15]) hP hK hD hS hA ⟨hx, hb, hml, hown, hts⟩ (zf_X9_mostOf l dC dI h1 o_8 v1_0 r1_1 r1_2 r1_3 r1_4 v1_5 r1_6 r1_7 r1_8 k14 f14 o_12 hqo_12 H.size) (cwV 1 hts gX7_reckon_X9_mostOf rfl rfl rfl zhd_X9_mostOf ⟨Nat.le_of_ble_eq_true rfl, Nat.le_of_ble_eq_true rfl⟩) [1, 14] rfl (of_decide_eq_true rfl) [9] rfl rfl rfl rfl hl.1 rfl (Nat.le_of_ble_eq_true rfl) dX7_reckon_50 ⟨Nat.le_of_ble_eq_true rfl, Nat.le_of_ble_eq_true rfl⟩ [none, some 0, none, none, none, none, none, none, none, none, none, none, none, none, some 1] (of_decide_eq_true rfl) (of_decide_eq_true rfl) rfl rfl rfl (fun H locs hP hD hS => ?_)
      refine lv_istore (lv' := [(5, .int o_12), (4, .int s_1.1), (0, .ref h0), (1, .ref h1), (2, .ref h2), (3, .ref h3)]) hx hb dX7_reckon_53 hl (of_decide_eq_true rfl) rfl (fun ls hl => ?_)
      refine lv_aload_n hx hb dX7_reckon_55 rfl (lv_at hl 4 rfl) ?_
      refine lv_iload hx hb dX7_reckon_56 (lv_at hl 1 rfl) ?_
      obtain ⟨o_16, hqo_16, hfn⟩ := zb_s hfn
      refine zcVl (ci := 6) (rest := []) (pc' := 61) (ws' := [zV7 h0 r0_0 (-2) s_1.2.1, zV9 h1 v1_0 r1_1 r1_2 r1_3 r1_4 v1_5 r1_6 r1_7 r1_8, zV4 r1_6 v2_0 v2_1 r2_2 r2_3 r2_4 r2_5 r2_6 r2_7 r2_8 r2_9, zV2 r1_7 v3_0 v3_1 v3_2 r3_3 r3_4 r3_5, zVi r3_3 k4 14 f4, zVi h3 k5 14 f5, zVi r1_2 k6 4 f6, zVi r2_3 k7 14 f7, zVi r2_8 k8 28 f8, zVl r0_0 k9 14 (vp_updL s_1.2.2 s_1.1.toNatClampNeg o_3), zVi r2_9 k10 28 f10, zV6 h2 r11_0 r11_1 r11_2, zVl r11_0 k12 14 f12, zVl r11_1 k13 14 f13, zVi r1_3 k14 4 f14, zVi r2_5 k15 14 f15]) hP hK hD hS hA ⟨hx, hb, hml, hown, hts⟩ (zf_X6_amountOf l dC dI h2 s_1.1 r11_0 r11_1 r11_2 k12 f12 k13 f13 o_16 hqo_16 H.size) (cwV 1 hts gX7_reckon_X6_amountOf rfl rfl rfl zhd_X6_amountOf ⟨Nat.le_of_ble_eq_true rfl, Nat.le_of_ble_eq_true rfl⟩) [11, 12, 13] rfl (of_decide_eq_true rfl) [7, 8] rfl rfl rfl rfl hl.1 rfl (Nat.le_of_ble_eq_true rfl) dX7_reckon_58 ⟨Nat.le_of_ble_eq_true rfl, Nat.le_of_ble_eq_true rfl⟩ [none, none, none, none, none, none, none, none, none, none, none, some 0, some 1, some 2] (of_decide_eq_true rfl) (of_decide_eq_true rfl) rfl rfl rfl (fun H locs hP hD hS => ?_)
      refine lv_aload_n hx hb dX7_reckon_61 rfl (lv_at hl 2 rfl) ?_
      refine va_get (D := (dC, dI)) (ci := 7) (v := .ref r0_0) (C := RX7) (T := TX7) (N := 3) hx hb hts zn_X7_reckon_X7 hown hK hP 0 rfl rfl 0 (of_decide_eq_true rfl) (hts (.fieldLink RX7 9 "ShortEnough$Reckoning" "errors" "[J") zw_X7_reckon_201) (fun _ h9 => h9) rfl dX7_reckon_62 ?_
      refine lv_iload hx hb dX7_reckon_65 (lv_at hl 1 rfl) ?_
      refine va_lald hx hb hK hP 9 5 rfl rfl h_7 dX7_reckon_67 ?_
      refine lv_ladd hx hb dX7_reckon_68 ?_
      refine lv_topl (fun x_20 ex_20 => ?_)
      have hfn := zn_s hfn ex_20
      refine lv_iload hx hb dX7_reckon_69 (lv_at hl 0 rfl) ?_
      refine lv_i2l (v := o_12.toInt64) hx hb dX7_reckon_71 rfl ?_
      refine W.lcmp hx hb dX7_reckon_72 ?_
      obtain ⟨j_21, ej_21, hfn⟩ := zj_g hfn
      have jp_21 : ∀ (s_21 : Int32) (H : Heap) (locs : List Loc) (ls : Array Slot), j_21 s_21 = some o → va_P (dC, dI) vwCl [zV7 h0 r0_0 (-2) s_21, zV9 h1 v1_0 r1_1 r1_2 r1_3 r1_4 v1_5 r1_6 r1_7 r1_8, zV4 r1_6 v2_0 v2_1 r2_2 r2_3 r2_4 r2_5 r2_6 r2_7 r2_8 r2_9, zV2 r1_7 v3_0 v3_1 v3_2 r3_3 r3_4 r3_5, zVi r3_3 k4 14 f4, zVi h3 k5 14 f5, zVi r1_2 k6 4 f6, zVi r2_3 k7 14 f7, zVi r2_8 k8 28 f8, zVl r0_0 k9 14 (vp_updL s_1.2.2 s_1.1.toNatClampNeg o_3), zVi r2_9 k10 28 f10, zV6 h2 r11_0 r11_1 r11_2, zVl r11_0 k12 14 f12, zVl r11_1 k13 14 f13, zVi r1_3 k14 4 f14, zVi r2_5 k15 14 f15] H → va_D A [zV7 h0 r0_0 (-2) s_21, zV9 h1 v1_0 r1_1 r1_2 r1_3 r1_4 v1_5 r1_6 r1_7 r1_8, zV4 r1_6 v2_0 v2_1 r2_2 r2_3 r2_4 r2_5 r2_6 r2_7 r2_8 r2_9, zV2 r1_7 v3_0 v3_1 v3_2 r3_3 r3_4 r3_5, zVi r3_3 k4 14 f4, zVi h3 k5 14 f5, zVi r1_2 k6 4 f6, zVi r2_3 k7 14 f7, zVi r2_8 k8 28 f8, zVl r0_0 k9 14 (vp_updL s_1.2.2 s_1.1.toNatClampNeg o_3), zVi r2_9 k10 28 f10, zV6 h2 r11_0 r11_1 r11_2, zVl r11_0 k12 14 f12, zVl r11_1 k13 14 f13, zVi r1_3 k14 4 f14, zVi r2_5 k15 14 f15] → va_S A s.heap H locs → lv_has ls 6 [(4, .int s_1.1), (0, .ref h0), (1, .ref h1), (2, .ref h2), (3, .ref h3)] → W p l e (headSpec wsX7_reckon ({ frames := 3, cells := 0, slots := 0, locals := 100 })).room s m ([.ref h0, .ref h1, .ref h2, .ref h3] : List Value).toArray below meth c H locs 0 0 Q (F0 m 120 ls []) := by
        intro s_21 H locs ls hfn hP hD hS hl
        have hfn := zj_s ej_21 hfn
        refine lv_aload_n hx hb dX7_reckon_120 rfl (lv_at hl 1 rfl) ?_
        refine va_get (D := (dC, dI)) (ci := 7) (v := .int s_21) (C := RX7) (T := TX7) (N := 3) hx hb hts zn_X7_reckon_X7 hown hK hP 0 rfl rfl 2 (of_decide_eq_true rfl) (hts (.fieldLink RX7 19 "ShortEnough$Reckoning" "reason" "I") zw_X7_reckon_196) (fun _ h9 => h9) rfl dX7_reckon_121 ?_
        refine lv_if_eq (tgt := 135) hx hb dX7_reckon_124 (of_decide_eq_true rfl) (fun c_22 => ?_) (fun c_22 => ?_)
        · have hfn := (if_pos c_22).symm.trans hfn
          refine lv_iinc (v := (s_1.1 + 1)) (lv' := [(4, .int (s_1.1 + 1)), (0, .ref h0), (1, .ref h1), (2, .ref h2), (3, .ref h3)]) hx hb dX7_reckon_135 hl (k := 0) rfl rfl (of_decide_eq_true rfl) rfl (fun ls hl => ?_)
          refine lv_goto (tgt := 14) hx hb dX7_reckon_138 (of_decide_eq_true rfl) ?_
          exact ih_1 ((s_1.1 + 1), s_21, (vp_updL s_1.2.2 s_1.1.toNatClampNeg o_3)) H locs ls hfn hP hD hS (lv_sub hl [0, 1, 2, 3, 4] rfl)
        have hfn := (if_neg c_22).symm.trans hfn
        refine lv_aload_n hx hb dX7_reckon_127 rfl (lv_at hl 1 rfl) ?_
        refine lv_iload hx hb dX7_reckon_128 (lv_at hl 0 rfl) ?_
        refine va_put (D := (dC, dI)) (ci := 7) (v := .int s_1.1) (ty := .int) (C := RX7) (T := TX7) (N := 3) hx hb hts zn_X7_reckon_X7 tyX7 tyX7_ok nmX7 hown hK hP hD hS 0 rfl rfl 1 (of_decide_eq_true rfl) (hts (.fieldLink RX7 15 "ShortEnough$Reckoning" "failsAt" "I") zw_X7_reckon_195) (fun _ h9 => h9) rfl (tyX7_ok 1 (of_decide_eq_true rfl)) rfl rfl (Nat.le_of_ble_eq_true rfl) dX7_reckon_130 (fun H locs hP hD hS => ?_)
        have hP : va_P (dC, dI) vwCl [zV7 h0 r0_0 s_1.1 s_21, zV9 h1 v1_0 r1_1 r1_2 r1_3 r1_4 v1_5 r1_6 r1_7 r1_8, zV4 r1_6 v2_0 v2_1 r2_2 r2_3 r2_4 r2_5 r2_6 r2_7 r2_8 r2_9, zV2 r1_7 v3_0 v3_1 v3_2 r3_3 r3_4 r3_5, zVi r3_3 k4 14 f4, zVi h3 k5 14 f5, zVi r1_2 k6 4 f6, zVi r2_3 k7 14 f7, zVi r2_8 k8 28 f8, zVl r0_0 k9 14 (vp_updL s_1.2.2 s_1.1.toNatClampNeg o_3), zVi r2_9 k10 28 f10, zV6 h2 r11_0 r11_1 r11_2, zVl r11_0 k12 14 f12, zVl r11_1 k13 14 f13, zVi r1_3 k14 4 f14, zVi r2_5 k15 14 f15] H := hP
        have hD := zDW hD hP rfl
        refine lv_iconst (v := 0) hx hb dX7_reckon_133 zci_0 ?_
        have ho := Option.some.inj hfn
        subst ho
        exact zrz hx hb hr rfl hK hP hD hS hQ ⟨rfl, zB0⟩ hlocks dX7_reckon_134
      refine lv_if_le (tgt := 84) hx hb dX7_reckon_73 (of_decide_eq_true rfl) (fun c_23 => ?_) (fun c_23 => ?_)
      · have hfn := (if_pos c_23).symm.trans hfn
        refine lv_aload_n hx hb dX7_reckon_84 rfl (lv_at hl 3 rfl) ?_
        refine lv_iload hx hb dX7_reckon_85 (lv_at hl 1 rfl) ?_
        obtain ⟨o_24, hqo_24, hfn⟩ := zb_s hfn
        refine zcVb (ci := 9) (rest := []) (pc' := 90) (ws' := [zV7 h0 r0_0 (-2) s_1.2.1, zV9 h1 v1_0 r1_1 r1_2 r1_3 r1_4 v1_5 r1_6 r1_7 r1_8, zV4 r1_6 v2_0 v2_1 r2_2 r2_3 r2_4 r2_5 r2_6 r2_7 r2_8 r2_9, zV2 r1_7 v3_0 v3_1 v3_2 r3_3 r3_4 r3_5, zVi r3_3 k4 14 f4, zVi h3 k5 14 f5, zVi r1_2 k6 4 f6, zVi r2_3 k7 14 f7, zVi r2_8 k8 28 f8, zVl r0_0 k9 14 (vp_updL s_1.2.2 s_1.1.toNatClampNeg o_3), zVi r2_9 k10 28 f10, zV6 h2 r11_0 r11_1 r11_2, zVl r11_0 k12 14 f12, zVl r11_1 k13 14 f13, zVi r1_3 k14 4 f14, zVi r2_5 k15 14 f15]) hP hK hD hS hA ⟨hx, hb, hml, hown, hts⟩ (zf_X9_isAnswer l dC dI h1 s_1.1 v1_0 r1_1 r1_2 r1_3 r1_4 v1_5 r1_6 r1_7 r1_8 v2_0 v2_1 r2_2 r2_3 r2_4 r2_5 r2_6 r2_7 r2_8 r2_9 k15 f15 o_24 hqo_24 H.size) (cwV 1 hts gX7_reckon_X9_isAnswer rfl rfl rfl zhd_X9_isAnswer ⟨Nat.le_of_ble_eq_true rfl, Nat.le_of_ble_eq_true rfl⟩) [1, 2, 15] rfl (of_decide_eq_true rfl) [10] rfl rfl rfl rfl hl.1 rfl (Nat.le_of_ble_eq_true rfl) dX7_reckon_87 ⟨Nat.le_of_ble_eq_true rfl, Nat.le_of_ble_eq_true rfl⟩ [none, some 0, some 1, none, none, none, none, none, none, none, none, none, none, none, none, some 2] (of_decide_eq_true rfl) (of_decide_eq_true rfl) rfl rfl rfl (fun H locs hw_27n hP hD hS => ?_)
        refine lv_if_eq (tgt := 120) hx hb dX7_reckon_90 (of_decide_eq_true rfl) (fun c_28 => ?_) (fun c_28 => ?_)
        · have hfn := (if_pos c_28).symm.trans hfn
          exact jp_21 s_1.2.1 H locs ls hfn hP hD hS (lv_sub hl [1, 2, 3, 4, 5] rfl)
        have hfn := (if_neg c_28).symm.trans hfn
        refine lv_aload_n hx hb dX7_reckon_93 rfl (lv_at hl 2 rfl) ?_
        refine va_get (D := (dC, dI)) (ci := 7) (v := .ref r0_0) (C := RX7) (T := TX7) (N := 3) hx hb hts zn_X7_reckon_X7 hown hK hP 0 rfl rfl 0 (of_decide_eq_true rfl) (hts (.fieldLink RX7 9 "ShortEnough$Reckoning" "errors" "[J") zw_X7_reckon_201) (fun _ h9 => h9) rfl dX7_reckon_94 ?_
        refine lv_iload hx hb dX7_reckon_97 (lv_at hl 1 rfl) ?_
        refine va_lald hx hb hK hP 9 5 rfl rfl h_7 dX7_reckon_99 ?_
        refine lv_aload_n hx hb dX7_reckon_100 rfl (lv_at hl 3 rfl) ?_
        refine va_get (D := (dC, dI)) (ci := 9) (v := .ref r1_6) (C := RX9) (T := TX9) (N := 9) hx hb hts zn_X7_reckon_X9 hown hK hP 1 rfl rfl 6 (of_decide_eq_true rfl) (hts (.fieldLink RX7 22 "ShortEnough$Task" "numbers" "LShortEnough$Numbers;") zw_X7_reckon_198) (fun _ h9 => h9) rfl dX7_reckon_101 ?_
        refine va_get (D := (dC, dI)) (ci := 4) (v := .ref r2_5) (C := RX4) (T := TX4) (N := 10) hx hb hts zn_X7_reckon_X4 hown hK hP 2 rfl rfl 5 (of_decide_eq_true rfl) (hts (.fieldLink RX7 55 "ShortEnough$Numbers" "allowed" "[I") zw_X7_reckon_202) (fun _ h9 => h9) rfl dX7_reckon_104 ?_
        refine lv_iload hx hb dX7_reckon_107 (lv_at hl 1 rfl) ?_
        refine va_iald hx hb hK hP 15 10 rfl rfl h_7 dX7_reckon_109 ?_
        refine lv_i2l (v := (f15 s_1.1.toNatClampNeg).toInt64) hx hb dX7_reckon_110 rfl ?_
        refine W.lcmp hx hb dX7_reckon_111 ?_
        refine lv_if_le (tgt := 120) hx hb dX7_reckon_112 (of_decide_eq_true rfl) (fun c_29 => ?_) (fun c_29 => ?_)
        · have hfn := (if_pos c_29).symm.trans hfn
          exact jp_21 s_1.2.1 H locs ls hfn hP hD hS (lv_sub hl [1, 2, 3, 4, 5] rfl)
        have hfn := (if_neg c_29).symm.trans hfn
        refine lv_aload_n hx hb dX7_reckon_115 rfl (lv_at hl 2 rfl) ?_
        refine lv_iconst (v := 2) hx hb dX7_reckon_116 zci_2 ?_
        refine va_put (D := (dC, dI)) (ci := 7) (v := .int 2) (ty := .int) (C := RX7) (T := TX7) (N := 3) hx hb hts zn_X7_reckon_X7 tyX7 tyX7_ok nmX7 hown hK hP hD hS 0 rfl rfl 2 (of_decide_eq_true rfl) (hts (.fieldLink RX7 19 "ShortEnough$Reckoning" "reason" "I") zw_X7_reckon_196) (fun _ h9 => h9) rfl (tyX7_ok 2 (of_decide_eq_true rfl)) rfl rfl (Nat.le_of_ble_eq_true rfl) dX7_reckon_117 (fun H locs hP hD hS => ?_)
        have hP : va_P (dC, dI) vwCl [zV7 h0 r0_0 (-2) 2, zV9 h1 v1_0 r1_1 r1_2 r1_3 r1_4 v1_5 r1_6 r1_7 r1_8, zV4 r1_6 v2_0 v2_1 r2_2 r2_3 r2_4 r2_5 r2_6 r2_7 r2_8 r2_9, zV2 r1_7 v3_0 v3_1 v3_2 r3_3 r3_4 r3_5, zVi r3_3 k4 14 f4, zVi h3 k5 14 f5, zVi r1_2 k6 4 f6, zVi r2_3 k7 14 f7, zVi r2_8 k8 28 f8, zVl r0_0 k9 14 (vp_updL s_1.2.2 s_1.1.toNatClampNeg o_3), zVi r2_9 k10 28 f10, zV6 h2 r11_0 r11_1 r11_2, zVl r11_0 k12 14 f12, zVl r11_1 k13 14 f13, zVi r1_3 k14 4 f14, zVi r2_5 k15 14 f15] H := hP
        have hD := zDW hD hP rfl
        exact jp_21 2 H locs ls hfn hP hD hS (lv_sub hl [1, 2, 3, 4, 5] rfl)
      have hfn := (if_neg c_23).symm.trans hfn
      refine lv_aload_n hx hb dX7_reckon_76 rfl (lv_at hl 2 rfl) ?_
      refine lv_iconst (v := 1) hx hb dX7_reckon_77 zci_1 ?_
      refine va_put (D := (dC, dI)) (ci := 7) (v := .int 1) (ty := .int) (C := RX7) (T := TX7) (N := 3) hx hb hts zn_X7_reckon_X7 tyX7 tyX7_ok nmX7 hown hK hP hD hS 0 rfl rfl 2 (of_decide_eq_true rfl) (hts (.fieldLink RX7 19 "ShortEnough$Reckoning" "reason" "I") zw_X7_reckon_196) (fun _ h9 => h9) rfl (tyX7_ok 2 (of_decide_eq_true rfl)) rfl rfl (Nat.le_of_ble_eq_true rfl) dX7_reckon_78 (fun H locs hP hD hS => ?_)
      have hP : va_P (dC, dI) vwCl [zV7 h0 r0_0 (-2) 1, zV9 h1 v1_0 r1_1 r1_2 r1_3 r1_4 v1_5 r1_6 r1_7 r1_8, zV4 r1_6 v2_0 v2_1 r2_2 r2_3 r2_4 r2_5 r2_6 r2_7 r2_8 r2_9, zV2 r1_7 v3_0 v3_1 v3_2 r3_3 r3_4 r3_5, zVi r3_3 k4 14 f4, zVi h3 k5 14 f5, zVi r1_2 k6 4 f6, zVi r2_3 k7 14 f7, zVi r2_8 k8 28 f8, zVl r0_0 k9 14 (vp_updL s_1.2.2 s_1.1.toNatClampNeg o_3), zVi r2_9 k10 28 f10, zV6 h2 r11_0 r11_1 r11_2, zVl r11_0 k12 14 f12, zVl r11_1 k13 14 f13, zVi r1_3 k14 4 f14, zVi r2_5 k15 14 f15] H := hP
      have hD := zDW hD hP rfl
      refine lv_goto (tgt := 120) hx hb dX7_reckon_81 (of_decide_eq_true rfl) ?_
      exact jp_21 1 H locs ls hfn hP hD hS (lv_sub hl [1, 2, 3, 4, 5] rfl)
  exact lp_1 _ (0, 0, f9) H locs ls hfn hP hD hS (lv_sub hl [0, 1, 2, 3, 4] rfl)
theorem zn_X9_castsOf_X9 : ∀ w ∈ wsX90, w ∈ wsX9_castsOf := fun _ h => List.mem_cons_of_mem _ (List.mem_append_left _ (List.mem_append_left _ (List.mem_append_right _ h)))
theorem zw_X9_castsOf_206 : Cond.fieldLink RX9 27 "ShortEnough$Task" "numbers" "LShortEnough$Numbers;" ∈ wsX9_castsOf := List.mem_of_getElem? (i := 1) (by decide +kernel)
theorem zn_X9_castsOf_X4 : ∀ w ∈ wsX40, w ∈ wsX9_castsOf := fun _ h => List.mem_cons_of_mem _ (List.mem_append_left _ (List.mem_append_right _ h))
theorem zw_X9_castsOf_208 : Cond.fieldLink RX9 52 "ShortEnough$Numbers" "count" "I" ∈ wsX9_castsOf := List.mem_of_getElem? (i := 2) (by decide +kernel)
set_option maxHeartbeats 4000000 in
set_option maxRecDepth 100000 in
theorem zf_X9_castsOf (l : Launch) (dC : Nat → ClassId) (dI : Nat → Nat → Nat) (h0 : Nat) (h1 : Nat) (v0_0 : Int32) (r0_1 : Nat) (r0_2 : Nat) (r0_3 : Nat) (r0_4 : Nat) (v0_5 : Int32) (r0_6 : Nat) (r0_7 : Nat) (r0_8 : Nat) (v1_0 : Int32) (v1_1 : Int32) (r1_2 : Nat) (r1_3 : Nat) (r1_4 : Nat) (r1_5 : Nat) (r1_6 : Nat) (r1_7 : Nat) (r1_8 : Nat) (r1_9 : Nat) (k2 : Nat) (f2 : Nat → Int32) (v3_0 : Int32) (v3_1 : Int32) (v3_2 : Int32) (r3_3 : Nat) (r3_4 : Nat) (r3_5 : Nat) (k4 : Nat) (f4 : Nat → Int32) (k5 : Nat) (f5 : Nat → Int32) (o : Int32) (hfn : fn_X9_castsOf v1_0 f2 f4 f5 = some o) (sz : Nat) : zMi l yX9_castsOf wsX9_castsOf ({ frames := 1, cells := 0, slots := 0, locals := 23 }) (dC, dI) vwCl [.ref h0, .ref h1] [zV9 h0 v0_0 r0_1 r0_2 r0_3 r0_4 v0_5 r0_6 r0_7 r0_8, zV4 r0_6 v1_0 v1_1 r1_2 r1_3 r1_4 r1_5 r1_6 r1_7 r1_8 r1_9, zVi r1_8 k2 28 f2, zV2 r0_7 v3_0 v3_1 v3_2 r3_3 r3_4 r3_5, zVi r3_3 k4 14 f4, zVi h1 k5 14 f5] [(k2, .int), (k4, .int), (k5, .int)] (fun r _ => r = o) [zV9 h0 v0_0 r0_1 r0_2 r0_3 r0_4 v0_5 r0_6 r0_7 r0_8, zV4 r0_6 v1_0 v1_1 r1_2 r1_3 r1_4 r1_5 r1_6 r1_7 r1_8 r1_9, zVi r1_8 k2 28 f2, zV2 r0_7 v3_0 v3_1 v3_2 r3_3 r3_4 r3_5, zVi r3_3 k4 14 f4, zVi h1 k5 14 f5] [(k2, .int), (k4, .int), (k5, .int)] sz := by
  refine zgoi (cc := cX9_castsOf) (maxL := 6) (ret := (some .int)) (C0 := RX9) (lv0 := [(0, .ref h0), (1, .ref h1)]) zpl_X9 rfl rfl rfl (Nat.le_of_ble_eq_true rfl) ?_
  intro p e s m below meth c A ls Q hx hb hr hts hown hlocks hml hP hK hD hA hS hl hQ
  unfold fn_X9_castsOf at hfn
  refine lv_iconst (v := 0) hx hb dX9_castsOf_0 zci_0 ?_
  refine lv_istore_n (lv' := [(2, .int 0), (0, .ref h0), (1, .ref h1)]) hx hb dX9_castsOf_1 rfl hl (of_decide_eq_true rfl) rfl (fun ls hl => ?_)
  refine lv_iconst (v := 0) hx hb dX9_castsOf_2 zci_0 ?_
  refine lv_istore_n (lv' := [(3, .int 0), (2, .int 0), (0, .ref h0), (1, .ref h1)]) hx hb dX9_castsOf_3 rfl hl (of_decide_eq_true rfl) rfl (fun ls hl => ?_)
  obtain ⟨bd_1, ebd_1, hfn⟩ := zl_g hfn
  have lp_1 : ∀ (n : Nat) (s_1 : Int32 × Int32) (H : Heap) (locs : List Loc) (ls : Array Slot), zl bd_1 n s_1 = some o → va_P (dC, dI) vwCl [zV9 h0 v0_0 r0_1 r0_2 r0_3 r0_4 v0_5 r0_6 r0_7 r0_8, zV4 r0_6 v1_0 v1_1 r1_2 r1_3 r1_4 r1_5 r1_6 r1_7 r1_8 r1_9, zVi r1_8 k2 28 f2, zV2 r0_7 v3_0 v3_1 v3_2 r3_3 r3_4 r3_5, zVi r3_3 k4 14 f4, zVi h1 k5 14 f5] H → va_D A [zV9 h0 v0_0 r0_1 r0_2 r0_3 r0_4 v0_5 r0_6 r0_7 r0_8, zV4 r0_6 v1_0 v1_1 r1_2 r1_3 r1_4 r1_5 r1_6 r1_7 r1_8 r1_9, zVi r1_8 k2 28 f2, zV2 r0_7 v3_0 v3_1 v3_2 r3_3 r3_4 r3_5, zVi r3_3 k4 14 f4, zVi h1 k5 14 f5] → va_S A s.heap H locs → lv_has ls 6 [(3, .int s_1.2), (2, .int s_1.1), (0, .ref h0), (1, .ref h1)] → W p l e (headSpec wsX9_castsOf ({ frames := 1, cells := 0, slots := 0, locals := 23 })).room s m ([.ref h0, .ref h1] : List Value).toArray below meth c H locs 0 0 Q (F0 m 4 ls []) := by
    intro n
    induction n with
    | zero => exact fun _ _ _ _ hfn => (zl_0 hfn).elim
    | succ n ih_1 =>
      intro s_1 H locs ls hfn hP hD hS hl
      have hfn := zl_s ebd_1 hfn
      refine lv_iload_n hx hb dX9_castsOf_4 rfl (lv_at hl 0 rfl) ?_
      refine lv_aload_n hx hb dX9_castsOf_5 rfl (lv_at hl 2 rfl) ?_
      refine va_get (D := (dC, dI)) (ci := 9) (v := .ref r0_6) (C := RX9) (T := TX9) (N := 9) hx hb hts zn_X9_castsOf_X9 hown hK hP 0 rfl rfl 6 (of_decide_eq_true rfl) (hts (.fieldLink RX9 27 "ShortEnough$Task" "numbers" "LShortEnough$Numbers;") zw_X9_castsOf_206) (fun _ h9 => h9) rfl dX9_castsOf_6 ?_
      refine va_get (D := (dC, dI)) (ci := 4) (v := .int v1_0) (C := RX4) (T := TX4) (N := 10) hx hb hts zn_X9_castsOf_X4 hown hK hP 1 rfl rfl 0 (of_decide_eq_true rfl) (hts (.fieldLink RX9 52 "ShortEnough$Numbers" "count" "I") zw_X9_castsOf_208) (fun _ h9 => h9) rfl dX9_castsOf_9 ?_
      refine lv_icmp_ge (tgt := 73) hx hb dX9_castsOf_12 (of_decide_eq_true rfl) (fun c_2 => ?_) (fun c_2 => ?_)
      · have hfn := (if_pos c_2).symm.trans hfn
        refine lv_iload_n hx hb dX9_castsOf_73 rfl (lv_at hl 1 rfl) ?_
        have ho := Option.some.inj hfn
        subst ho
        exact zri hx hb hr hK hP hD hS hQ rfl hlocks dX9_castsOf_74
      have hfn := (if_neg c_2).symm.trans hfn
      refine lv_iconst (v := 0) hx hb dX9_castsOf_15 zci_0 ?_
      refine lv_istore (lv' := [(4, .int 0), (3, .int s_1.2), (2, .int s_1.1), (0, .ref h0), (1, .ref h1)]) hx hb dX9_castsOf_16 hl (of_decide_eq_true rfl) rfl (fun ls hl => ?_)
      obtain ⟨bd_3, ebd_3, hfn⟩ := zl_g hfn
      have lp_3 : ∀ (n : Nat) (s_3 : Int32 × Int32) (H : Heap) (locs : List Loc) (ls : Array Slot), zl bd_3 n s_3 = some o → va_P (dC, dI) vwCl [zV9 h0 v0_0 r0_1 r0_2 r0_3 r0_4 v0_5 r0_6 r0_7 r0_8, zV4 r0_6 v1_0 v1_1 r1_2 r1_3 r1_4 r1_5 r1_6 r1_7 r1_8 r1_9, zVi r1_8 k2 28 f2, zV2 r0_7 v3_0 v3_1 v3_2 r3_3 r3_4 r3_5, zVi r3_3 k4 14 f4, zVi h1 k5 14 f5] H → va_D A [zV9 h0 v0_0 r0_1 r0_2 r0_3 r0_4 v0_5 r0_6 r0_7 r0_8, zV4 r0_6 v1_0 v1_1 r1_2 r1_3 r1_4 r1_5 r1_6 r1_7 r1_8 r1_9, zVi r1_8 k2 28 f2, zV2 r0_7 v3_0 v3_1 v3_2 r3_3 r3_4 r3_5, zVi r3_3 k4 14 f4, zVi h1 k5 14 f5] → va_S A s.heap H locs → lv_has ls 6 [(4, .int s_3.2), (3, .int s_1.2), (2, .int s_3.1), (0, .ref h0), (1, .ref h1)] → W p l e (headSpec wsX9_castsOf ({ frames := 1, cells := 0, slots := 0, locals := 23 })).room s m ([.ref h0, .ref h1] : List Value).toArray below meth c H locs 0 0 Q (F0 m 18 ls []) := by
        intro n
        induction n with
        | zero => exact fun _ _ _ _ hfn => (zl_0 hfn).elim
        | succ n ih_3 =>
          intro s_3 H locs ls hfn hP hD hS hl
          have hfn := zl_s ebd_3 hfn
          refine lv_iload hx hb dX9_castsOf_18 (lv_at hl 0 rfl) ?_
          refine lv_iconst (v := 2) hx hb dX9_castsOf_20 zci_2 ?_
          refine lv_icmp_ge (tgt := 67) hx hb dX9_castsOf_21 (of_decide_eq_true rfl) (fun c_4 => ?_) (fun c_4 => ?_)
          · have hfn := (if_pos c_4).symm.trans hfn
            refine lv_iinc (v := (s_1.2 + 1)) (lv' := [(3, .int (s_1.2 + 1)), (4, .int s_3.2), (2, .int s_3.1), (0, .ref h0), (1, .ref h1)]) hx hb dX9_castsOf_67 hl (k := 1) rfl rfl (of_decide_eq_true rfl) rfl (fun ls hl => ?_)
            refine lv_goto (tgt := 4) hx hb dX9_castsOf_70 (of_decide_eq_true rfl) ?_
            exact ih_1 (s_3.1, (s_1.2 + 1)) H locs ls hfn hP hD hS (lv_sub hl [0, 2, 3, 4] rfl)
          have hfn := (if_neg c_4).symm.trans hfn
          refine lv_aload_n hx hb dX9_castsOf_24 rfl (lv_at hl 3 rfl) ?_
          refine va_get (D := (dC, dI)) (ci := 9) (v := .ref r0_6) (C := RX9) (T := TX9) (N := 9) hx hb hts zn_X9_castsOf_X9 hown hK hP 0 rfl rfl 6 (of_decide_eq_true rfl) (hts (.fieldLink RX9 27 "ShortEnough$Task" "numbers" "LShortEnough$Numbers;") zw_X9_castsOf_206) (fun _ h9 => h9) rfl dX9_castsOf_25 ?_
          refine lv_iload_n hx hb dX9_castsOf_28 rfl (lv_at hl 1 rfl) ?_
          refine lv_iload hx hb dX9_castsOf_29 (lv_at hl 0 rfl) ?_
          obtain ⟨o_5, hqo_5, hfn⟩ := zb_s hfn
          refine zcVi (ci := 4) (rest := []) (pc' := 34) (ws' := [zV9 h0 v0_0 r0_1 r0_2 r0_3 r0_4 v0_5 r0_6 r0_7 r0_8, zV4 r0_6 v1_0 v1_1 r1_2 r1_3 r1_4 r1_5 r1_6 r1_7 r1_8 r1_9, zVi r1_8 k2 28 f2, zV2 r0_7 v3_0 v3_1 v3_2 r3_3 r3_4 r3_5, zVi r3_3 k4 14 f4, zVi h1 k5 14 f5]) hP hK hD hS hA ⟨hx, hb, hml, hown, hts⟩ (zf_X4_madeOf l dC dI r0_6 s_1.2 s_3.2 v1_0 v1_1 r1_2 r1_3 r1_4 r1_5 r1_6 r1_7 r1_8 r1_9 k2 f2 o_5 hqo_5 H.size) (cwV 2 hts gX9_castsOf_X4_madeOf rfl rfl rfl zhd_X4_madeOf ⟨Nat.le_of_ble_eq_true rfl, Nat.le_of_ble_eq_true rfl⟩) [1, 2] rfl (of_decide_eq_true rfl) [0] rfl rfl rfl rfl hl.1 rfl (Nat.le_of_ble_eq_true rfl) dX9_castsOf_31 ⟨Nat.le_of_ble_eq_true rfl, Nat.le_of_ble_eq_true rfl⟩ [none, some 0, some 1] (of_decide_eq_true rfl) (of_decide_eq_true rfl) rfl rfl rfl (fun H locs hP hD hS => ?_)
          refine lv_istore (lv' := [(5, .int o_5), (4, .int s_3.2), (3, .int s_1.2), (2, .int s_3.1), (0, .ref h0), (1, .ref h1)]) hx hb dX9_castsOf_34 hl (of_decide_eq_true rfl) rfl (fun ls hl => ?_)
          refine lv_iload hx hb dX9_castsOf_36 (lv_at hl 0 rfl) ?_
          refine lv_iconst (v := (-1)) hx hb dX9_castsOf_38 zci_m1 ?_
          refine lv_icmp_eq (tgt := 61) hx hb dX9_castsOf_39 (of_decide_eq_true rfl) (fun c_9 => ?_) (fun c_9 => ?_)
          · have hfn := (if_pos c_9).symm.trans hfn
            refine lv_iinc (v := (s_3.2 + 1)) (lv' := [(4, .int (s_3.2 + 1)), (5, .int o_5), (3, .int s_1.2), (2, .int s_3.1), (0, .ref h0), (1, .ref h1)]) hx hb dX9_castsOf_61 hl (k := 1) rfl rfl (of_decide_eq_true rfl) rfl (fun ls hl => ?_)
            refine lv_goto (tgt := 18) hx hb dX9_castsOf_64 (of_decide_eq_true rfl) ?_
            exact ih_3 (s_3.1, (s_3.2 + 1)) H locs ls hfn hP hD hS (lv_sub hl [0, 2, 3, 4, 5] rfl)
          have hfn := (if_neg c_9).symm.trans hfn
          refine lv_aload_n hx hb dX9_castsOf_42 rfl (lv_at hl 4 rfl) ?_
          refine lv_aload_n hx hb dX9_castsOf_43 rfl (lv_at hl 5 rfl) ?_
          refine lv_iload hx hb dX9_castsOf_44 (lv_at hl 0 rfl) ?_
          obtain ⟨o_10, hqo_10, hfn⟩ := zb_s hfn
          refine zcVi (ci := 9) (rest := []) (pc' := 49) (ws' := [zV9 h0 v0_0 r0_1 r0_2 r0_3 r0_4 v0_5 r0_6 r0_7 r0_8, zV4 r0_6 v1_0 v1_1 r1_2 r1_3 r1_4 r1_5 r1_6 r1_7 r1_8 r1_9, zVi r1_8 k2 28 f2, zV2 r0_7 v3_0 v3_1 v3_2 r3_3 r3_4 r3_5, zVi r3_3 k4 14 f4, zVi h1 k5 14 f5]) hP hK hD hS hA ⟨hx, hb, hml, hown, hts⟩ (zf_X9_formatOf l dC dI h0 h1 o_5 v0_0 r0_1 r0_2 r0_3 r0_4 v0_5 r0_6 r0_7 r0_8 v1_0 v1_1 r1_2 r1_3 r1_4 r1_5 r1_6 r1_7 r1_8 r1_9 v3_0 v3_1 v3_2 r3_3 r3_4 r3_5 k4 f4 k5 f5 o_10 hqo_10 H.size) (cwV 2 hts gX9_castsOf_X9_formatOf rfl rfl rfl zhd_X9_formatOf ⟨Nat.le_of_ble_eq_true rfl, Nat.le_of_ble_eq_true rfl⟩) [0, 1, 3, 4, 5] rfl (of_decide_eq_true rfl) [1, 2] rfl rfl rfl rfl hl.1 rfl (Nat.le_of_ble_eq_true rfl) dX9_castsOf_46 ⟨Nat.le_of_ble_eq_true rfl, Nat.le_of_ble_eq_true rfl⟩ [some 0, some 1, none, some 2, some 3, some 4] (of_decide_eq_true rfl) (of_decide_eq_true rfl) rfl rfl rfl (fun H locs hP hD hS => ?_)
          refine lv_aload_n hx hb dX9_castsOf_49 rfl (lv_at hl 4 rfl) ?_
          refine lv_aload_n hx hb dX9_castsOf_50 rfl (lv_at hl 5 rfl) ?_
          refine lv_iload_n hx hb dX9_castsOf_51 rfl (lv_at hl 2 rfl) ?_
          obtain ⟨o_14, hqo_14, hfn⟩ := zb_s hfn
          refine zcVi (ci := 9) (rest := [.int o_10]) (pc' := 55) (ws' := [zV9 h0 v0_0 r0_1 r0_2 r0_3 r0_4 v0_5 r0_6 r0_7 r0_8, zV4 r0_6 v1_0 v1_1 r1_2 r1_3 r1_4 r1_5 r1_6 r1_7 r1_8 r1_9, zVi r1_8 k2 28 f2, zV2 r0_7 v3_0 v3_1 v3_2 r3_3 r3_4 r3_5, zVi r3_3 k4 14 f4, zVi h1 k5 14 f5]) hP hK hD hS hA ⟨hx, hb, hml, hown, hts⟩ (zf_X9_formatOf l dC dI h0 h1 s_1.2 v0_0 r0_1 r0_2 r0_3 r0_4 v0_5 r0_6 r0_7 r0_8 v1_0 v1_1 r1_2 r1_3 r1_4 r1_5 r1_6 r1_7 r1_8 r1_9 v3_0 v3_1 v3_2 r3_3 r3_4 r3_5 k4 f4 k5 f5 o_14 hqo_14 H.size) (cwV 2 hts gX9_castsOf_X9_formatOf rfl rfl rfl zhd_X9_formatOf ⟨Nat.le_of_ble_eq_true rfl, Nat.le_of_ble_eq_true rfl⟩) [0, 1, 3, 4, 5] rfl (of_decide_eq_true rfl) [1, 2] rfl rfl rfl rfl hl.1 rfl (Nat.le_of_ble_eq_true rfl) dX9_castsOf_52 ⟨Nat.le_of_ble_eq_true rfl, Nat.le_of_ble_eq_true rfl⟩ [some 0, some 1, none, some 2, some 3, some 4] (of_decide_eq_true rfl) (of_decide_eq_true rfl) rfl rfl rfl (fun H locs hP hD hS => ?_)
          refine lv_icmp_eq (tgt := 61) hx hb dX9_castsOf_55 (of_decide_eq_true rfl) (fun c_18 => ?_) (fun c_18 => ?_)
          · have hfn := (if_pos c_18).symm.trans hfn
            refine lv_iinc (v := (s_3.2 + 1)) (lv' := [(4, .int (s_3.2 + 1)), (5, .int o_5), (3, .int s_1.2), (2, .int s_3.1), (0, .ref h0), (1, .ref h1)]) hx hb dX9_castsOf_61 hl (k := 1) rfl rfl (of_decide_eq_true rfl) rfl (fun ls hl => ?_)
            refine lv_goto (tgt := 18) hx hb dX9_castsOf_64 (of_decide_eq_true rfl) ?_
            exact ih_3 (s_3.1, (s_3.2 + 1)) H locs ls hfn hP hD hS (lv_sub hl [0, 2, 3, 4, 5] rfl)
          have hfn := (if_neg c_18).symm.trans hfn
          refine lv_iinc (v := (s_3.1 + 1)) (lv' := [(2, .int (s_3.1 + 1)), (5, .int o_5), (4, .int s_3.2), (3, .int s_1.2), (0, .ref h0), (1, .ref h1)]) hx hb dX9_castsOf_58 hl (k := 3) rfl rfl (of_decide_eq_true rfl) rfl (fun ls hl => ?_)
          refine lv_iinc (v := (s_3.2 + 1)) (lv' := [(4, .int (s_3.2 + 1)), (2, .int (s_3.1 + 1)), (5, .int o_5), (3, .int s_1.2), (0, .ref h0), (1, .ref h1)]) hx hb dX9_castsOf_61 hl (k := 2) rfl rfl (of_decide_eq_true rfl) rfl (fun ls hl => ?_)
          refine lv_goto (tgt := 18) hx hb dX9_castsOf_64 (of_decide_eq_true rfl) ?_
          exact ih_3 ((s_3.1 + 1), (s_3.2 + 1)) H locs ls hfn hP hD hS (lv_sub hl [0, 3, 1, 4, 5] rfl)
      exact lp_3 _ (s_1.1, 0) H locs ls hfn hP hD hS (lv_sub hl [0, 1, 2, 3, 4] rfl)
  exact lp_1 _ (0, 0) s.heap [] ls hfn hP hD hS (lv_sub hl [0, 1, 2, 3] rfl)
theorem zn_X9_priceOf_X9 : ∀ w ∈ wsX90, w ∈ wsX9_priceOf := fun _ h => List.mem_cons_of_mem _ (List.mem_append_left _ (List.mem_append_left _ (List.mem_append_right _ h)))
theorem zw_X9_priceOf_204 : Cond.fieldLink RX9 49 "ShortEnough$Task" "castPrice" "I" ∈ wsX9_priceOf := List.mem_of_getElem? (i := 1) (by decide +kernel)
theorem zw_X9_priceOf_209 : Cond.fieldLink RX9 27 "ShortEnough$Task" "numbers" "LShortEnough$Numbers;" ∈ wsX9_priceOf := List.mem_of_getElem? (i := 2) (by decide +kernel)
theorem zn_X9_priceOf_X4 : ∀ w ∈ wsX40, w ∈ wsX9_priceOf := fun _ h => List.mem_cons_of_mem _ (List.mem_append_left _ (List.mem_append_right _ h))
theorem zw_X9_priceOf_211 : Cond.fieldLink RX9 52 "ShortEnough$Numbers" "count" "I" ∈ wsX9_priceOf := List.mem_of_getElem? (i := 3) (by decide +kernel)
theorem zw_X9_priceOf_212 : Cond.fieldLink RX9 21 "ShortEnough$Task" "price" "[I" ∈ wsX9_priceOf := List.mem_of_getElem? (i := 4) (by decide +kernel)
set_option maxHeartbeats 4000000 in
set_option maxRecDepth 100000 in
theorem zf_X9_priceOf (l : Launch) (dC : Nat → ClassId) (dI : Nat → Nat → Nat) (h0 : Nat) (h1 : Nat) (v0_0 : Int32) (r0_1 : Nat) (r0_2 : Nat) (r0_3 : Nat) (r0_4 : Nat) (v0_5 : Int32) (r0_6 : Nat) (r0_7 : Nat) (r0_8 : Nat) (v1_0 : Int32) (v1_1 : Int32) (r1_2 : Nat) (r1_3 : Nat) (r1_4 : Nat) (r1_5 : Nat) (r1_6 : Nat) (r1_7 : Nat) (r1_8 : Nat) (r1_9 : Nat) (k2 : Nat) (f2 : Nat → Int32) (v3_0 : Int32) (v3_1 : Int32) (v3_2 : Int32) (r3_3 : Nat) (r3_4 : Nat) (r3_5 : Nat) (k4 : Nat) (f4 : Nat → Int32) (k5 : Nat) (f5 : Nat → Int32) (k6 : Nat) (f6 : Nat → Int32) (o : Int32) (hfn : fn_X9_priceOf v0_0 v0_5 v1_0 f2 f4 f5 f6 = some o) (sz : Nat) : zMi l yX9_priceOf wsX9_priceOf ({ frames := 2, cells := 0, slots := 0, locals := 48 }) (dC, dI) vwCl [.ref h0, .ref h1] [zV9 h0 v0_0 r0_1 r0_2 r0_3 r0_4 v0_5 r0_6 r0_7 r0_8, zV4 r0_6 v1_0 v1_1 r1_2 r1_3 r1_4 r1_5 r1_6 r1_7 r1_8 r1_9, zVi r1_8 k2 28 f2, zV2 r0_7 v3_0 v3_1 v3_2 r3_3 r3_4 r3_5, zVi r3_3 k4 14 f4, zVi h1 k5 14 f5, zVi r0_4 k6 4 f6] [(k2, .int), (k4, .int), (k5, .int), (k6, .int)] (fun r _ => r = o) [zV9 h0 v0_0 r0_1 r0_2 r0_3 r0_4 v0_5 r0_6 r0_7 r0_8, zV4 r0_6 v1_0 v1_1 r1_2 r1_3 r1_4 r1_5 r1_6 r1_7 r1_8 r1_9, zVi r1_8 k2 28 f2, zV2 r0_7 v3_0 v3_1 v3_2 r3_3 r3_4 r3_5, zVi r3_3 k4 14 f4, zVi h1 k5 14 f5, zVi r0_4 k6 4 f6] [(k2, .int), (k4, .int), (k5, .int), (k6, .int)] sz := by
  refine zgoi (cc := cX9_priceOf) (maxL := 5) (ret := (some .int)) (C0 := RX9) (lv0 := [(0, .ref h0), (1, .ref h1)]) zpl_X9 rfl rfl rfl (Nat.le_of_ble_eq_true rfl) ?_
  intro p e s m below meth c A ls Q hx hb hr hts hown hlocks hml hP hK hD hA hS hl hQ
  unfold fn_X9_priceOf at hfn
  refine lv_aload_n hx hb dX9_priceOf_0 rfl (lv_at hl 0 rfl) ?_
  refine va_get (D := (dC, dI)) (ci := 9) (v := .int v0_5) (C := RX9) (T := TX9) (N := 9) hx hb hts zn_X9_priceOf_X9 hown hK hP 0 rfl rfl 5 (of_decide_eq_true rfl) (hts (.fieldLink RX9 49 "ShortEnough$Task" "castPrice" "I") zw_X9_priceOf_204) (fun _ h9 => h9) rfl dX9_priceOf_1 ?_
  refine lv_aload_n hx hb dX9_priceOf_4 rfl (lv_at hl 0 rfl) ?_
  refine lv_aload_n hx hb dX9_priceOf_5 rfl (lv_at hl 1 rfl) ?_
  obtain ⟨o_1, hqo_1, hfn⟩ := zb_s hfn
  refine zcVi (ci := 9) (rest := [.int v0_5]) (pc' := 9) (ws' := [zV9 h0 v0_0 r0_1 r0_2 r0_3 r0_4 v0_5 r0_6 r0_7 r0_8, zV4 r0_6 v1_0 v1_1 r1_2 r1_3 r1_4 r1_5 r1_6 r1_7 r1_8 r1_9, zVi r1_8 k2 28 f2, zV2 r0_7 v3_0 v3_1 v3_2 r3_3 r3_4 r3_5, zVi r3_3 k4 14 f4, zVi h1 k5 14 f5, zVi r0_4 k6 4 f6]) hP hK hD hS hA ⟨hx, hb, hml, hown, hts⟩ (zf_X9_castsOf l dC dI h0 h1 v0_0 r0_1 r0_2 r0_3 r0_4 v0_5 r0_6 r0_7 r0_8 v1_0 v1_1 r1_2 r1_3 r1_4 r1_5 r1_6 r1_7 r1_8 r1_9 k2 f2 v3_0 v3_1 v3_2 r3_3 r3_4 r3_5 k4 f4 k5 f5 o_1 hqo_1 s.heap.size) (cwV 1 hts gX9_priceOf_X9_castsOf rfl rfl rfl zhd_X9_castsOf ⟨Nat.le_of_ble_eq_true rfl, Nat.le_of_ble_eq_true rfl⟩) [0, 1, 2, 3, 4, 5] rfl (of_decide_eq_true rfl) [0, 1, 2] rfl rfl rfl rfl hl.1 rfl (Nat.le_of_ble_eq_true rfl) dX9_priceOf_6 ⟨Nat.le_of_ble_eq_true rfl, Nat.le_of_ble_eq_true rfl⟩ [some 0, some 1, some 2, some 3, some 4, some 5] (of_decide_eq_true rfl) (of_decide_eq_true rfl) rfl rfl rfl (fun H locs hP hD hS => ?_)
  refine lv_imul hx hb dX9_priceOf_9 ?_
  refine lv_istore_n (lv' := [(2, .int (v0_5 * o_1)), (0, .ref h0), (1, .ref h1)]) hx hb dX9_priceOf_10 rfl hl (of_decide_eq_true rfl) rfl (fun ls hl => ?_)
  refine lv_iconst (v := 0) hx hb dX9_priceOf_11 zci_0 ?_
  refine lv_istore_n (lv' := [(3, .int 0), (2, .int (v0_5 * o_1)), (0, .ref h0), (1, .ref h1)]) hx hb dX9_priceOf_12 rfl hl (of_decide_eq_true rfl) rfl (fun ls hl => ?_)
  obtain ⟨bd_5, ebd_5, hfn⟩ := zl_g hfn
  have lp_5 : ∀ (n : Nat) (s_5 : Int32 × Int32) (H : Heap) (locs : List Loc) (ls : Array Slot), zl bd_5 n s_5 = some o → va_P (dC, dI) vwCl [zV9 h0 v0_0 r0_1 r0_2 r0_3 r0_4 v0_5 r0_6 r0_7 r0_8, zV4 r0_6 v1_0 v1_1 r1_2 r1_3 r1_4 r1_5 r1_6 r1_7 r1_8 r1_9, zVi r1_8 k2 28 f2, zV2 r0_7 v3_0 v3_1 v3_2 r3_3 r3_4 r3_5, zVi r3_3 k4 14 f4, zVi h1 k5 14 f5, zVi r0_4 k6 4 f6] H → va_D A [zV9 h0 v0_0 r0_1 r0_2 r0_3 r0_4 v0_5 r0_6 r0_7 r0_8, zV4 r0_6 v1_0 v1_1 r1_2 r1_3 r1_4 r1_5 r1_6 r1_7 r1_8 r1_9, zVi r1_8 k2 28 f2, zV2 r0_7 v3_0 v3_1 v3_2 r3_3 r3_4 r3_5, zVi r3_3 k4 14 f4, zVi h1 k5 14 f5, zVi r0_4 k6 4 f6] → va_S A s.heap H locs → lv_has ls 5 [(3, .int s_5.2), (2, .int s_5.1), (0, .ref h0), (1, .ref h1)] → W p l e (headSpec wsX9_priceOf ({ frames := 2, cells := 0, slots := 0, locals := 48 })).room s m ([.ref h0, .ref h1] : List Value).toArray below meth c H locs 0 0 Q (F0 m 13 ls []) := by
    intro n
    induction n with
    | zero => exact fun _ _ _ _ hfn => (zl_0 hfn).elim
    | succ n ih_5 =>
      intro s_5 H locs ls hfn hP hD hS hl
      have hfn := zl_s ebd_5 hfn
      refine lv_iload_n hx hb dX9_priceOf_13 rfl (lv_at hl 0 rfl) ?_
      refine lv_aload_n hx hb dX9_priceOf_14 rfl (lv_at hl 2 rfl) ?_
      refine va_get (D := (dC, dI)) (ci := 9) (v := .ref r0_6) (C := RX9) (T := TX9) (N := 9) hx hb hts zn_X9_priceOf_X9 hown hK hP 0 rfl rfl 6 (of_decide_eq_true rfl) (hts (.fieldLink RX9 27 "ShortEnough$Task" "numbers" "LShortEnough$Numbers;") zw_X9_priceOf_209) (fun _ h9 => h9) rfl dX9_priceOf_15 ?_
      refine va_get (D := (dC, dI)) (ci := 4) (v := .int v1_0) (C := RX4) (T := TX4) (N := 10) hx hb hts zn_X9_priceOf_X4 hown hK hP 1 rfl rfl 0 (of_decide_eq_true rfl) (hts (.fieldLink RX9 52 "ShortEnough$Numbers" "count" "I") zw_X9_priceOf_211) (fun _ h9 => h9) rfl dX9_priceOf_18 ?_
      refine lv_icmp_ge (tgt := 61) hx hb dX9_priceOf_21 (of_decide_eq_true rfl) (fun c_6 => ?_) (fun c_6 => ?_)
      · have hfn := (if_pos c_6).symm.trans hfn
        refine lv_iload_n hx hb dX9_priceOf_61 rfl (lv_at hl 1 rfl) ?_
        have ho := Option.some.inj hfn
        subst ho
        exact zri hx hb hr hK hP hD hS hQ rfl hlocks dX9_priceOf_62
      have hfn := (if_neg c_6).symm.trans hfn
      refine lv_aload_n hx hb dX9_priceOf_24 rfl (lv_at hl 2 rfl) ?_
      refine lv_aload_n hx hb dX9_priceOf_25 rfl (lv_at hl 3 rfl) ?_
      refine lv_iload_n hx hb dX9_priceOf_26 rfl (lv_at hl 0 rfl) ?_
      obtain ⟨o_7, hqo_7, hfn⟩ := zb_s hfn
      refine zcVi (ci := 9) (rest := []) (pc' := 30) (ws' := [zV9 h0 v0_0 r0_1 r0_2 r0_3 r0_4 v0_5 r0_6 r0_7 r0_8, zV4 r0_6 v1_0 v1_1 r1_2 r1_3 r1_4 r1_5 r1_6 r1_7 r1_8 r1_9, zVi r1_8 k2 28 f2, zV2 r0_7 v3_0 v3_1 v3_2 r3_3 r3_4 r3_5, zVi r3_3 k4 14 f4, zVi h1 k5 14 f5, zVi r0_4 k6 4 f6]) hP hK hD hS hA ⟨hx, hb, hml, hown, hts⟩ (zf_X9_formatOf l dC dI h0 h1 s_5.2 v0_0 r0_1 r0_2 r0_3 r0_4 v0_5 r0_6 r0_7 r0_8 v1_0 v1_1 r1_2 r1_3 r1_4 r1_5 r1_6 r1_7 r1_8 r1_9 v3_0 v3_1 v3_2 r3_3 r3_4 r3_5 k4 f4 k5 f5 o_7 hqo_7 H.size) (cwV 2 hts gX9_priceOf_X9_formatOf rfl rfl rfl zhd_X9_formatOf ⟨Nat.le_of_ble_eq_true rfl, Nat.le_of_ble_eq_true rfl⟩) [0, 1, 3, 4, 5] rfl (of_decide_eq_true rfl) [1, 2] rfl rfl rfl rfl hl.1 rfl (Nat.le_of_ble_eq_true rfl) dX9_priceOf_27 ⟨Nat.le_of_ble_eq_true rfl, Nat.le_of_ble_eq_true rfl⟩ [some 0, some 1, none, some 2, some 3, some 4] (of_decide_eq_true rfl) (of_decide_eq_true rfl) rfl rfl rfl (fun H locs hP hD hS => ?_)
      refine lv_istore (lv' := [(4, .int o_7), (3, .int s_5.2), (2, .int s_5.1), (0, .ref h0), (1, .ref h1)]) hx hb dX9_priceOf_30 hl (of_decide_eq_true rfl) rfl (fun ls hl => ?_)
      refine lv_iload_n hx hb dX9_priceOf_32 rfl (lv_at hl 2 rfl) ?_
      refine lv_aload_n hx hb dX9_priceOf_33 rfl (lv_at hl 3 rfl) ?_
      refine lv_iload hx hb dX9_priceOf_34 (lv_at hl 0 rfl) ?_
      obtain ⟨o_11, hqo_11, hfn⟩ := zb_s hfn
      refine zcVb (ci := 9) (rest := [.int s_5.1]) (pc' := 39) (ws' := [zV9 h0 v0_0 r0_1 r0_2 r0_3 r0_4 v0_5 r0_6 r0_7 r0_8, zV4 r0_6 v1_0 v1_1 r1_2 r1_3 r1_4 r1_5 r1_6 r1_7 r1_8 r1_9, zVi r1_8 k2 28 f2, zV2 r0_7 v3_0 v3_1 v3_2 r3_3 r3_4 r3_5, zVi r3_3 k4 14 f4, zVi h1 k5 14 f5, zVi r0_4 k6 4 f6]) hP hK hD hS hA ⟨hx, hb, hml, hown, hts⟩ (zf_X9_hasFormat l dC dI h0 o_7 v0_0 r0_1 r0_2 r0_3 r0_4 v0_5 r0_6 r0_7 r0_8 o_11 hqo_11 H.size) (cwV 1 hts gX9_priceOf_X9_hasFormat rfl rfl rfl zhd_X9_hasFormat ⟨Nat.le_of_ble_eq_true rfl, Nat.le_of_ble_eq_true rfl⟩) [0] rfl (of_decide_eq_true rfl) [] rfl rfl rfl rfl hl.1 rfl (Nat.le_of_ble_eq_true rfl) dX9_priceOf_36 ⟨Nat.le_of_ble_eq_true rfl, Nat.le_of_ble_eq_true rfl⟩ [some 0] (of_decide_eq_true rfl) (of_decide_eq_true rfl) rfl rfl rfl (fun H locs hw_14n hP hD hS => ?_)
      refine lv_if_eq (tgt := 52) hx hb dX9_priceOf_39 (of_decide_eq_true rfl) (fun c_15 => ?_) (fun c_15 => ?_)
      · have hfn := (if_pos c_15).symm.trans hfn
        refine lv_iconst (v := 0) hx hb dX9_priceOf_52 zci_0 ?_
        refine lv_iadd hx hb dX9_priceOf_53 ?_
        refine lv_istore_n (lv' := [(2, .int (s_5.1 + 0)), (4, .int o_7), (3, .int s_5.2), (0, .ref h0), (1, .ref h1)]) hx hb dX9_priceOf_54 rfl hl (of_decide_eq_true rfl) rfl (fun ls hl => ?_)
        refine lv_iinc (v := (s_5.2 + 1)) (lv' := [(3, .int (s_5.2 + 1)), (2, .int (s_5.1 + 0)), (4, .int o_7), (0, .ref h0), (1, .ref h1)]) hx hb dX9_priceOf_55 hl (k := 2) rfl rfl (of_decide_eq_true rfl) rfl (fun ls hl => ?_)
        refine lv_goto (tgt := 13) hx hb dX9_priceOf_58 (of_decide_eq_true rfl) ?_
        exact ih_5 ((s_5.1 + 0), (s_5.2 + 1)) H locs ls hfn hP hD hS (lv_sub hl [0, 1, 3, 4] rfl)
      have hfn := (if_neg c_15).symm.trans hfn
      refine lv_aload_n hx hb dX9_priceOf_42 rfl (lv_at hl 3 rfl) ?_
      refine va_get (D := (dC, dI)) (ci := 9) (v := .ref r0_4) (C := RX9) (T := TX9) (N := 9) hx hb hts zn_X9_priceOf_X9 hown hK hP 0 rfl rfl 4 (of_decide_eq_true rfl) (hts (.fieldLink RX9 21 "ShortEnough$Task" "price" "[I") zw_X9_priceOf_212) (fun _ h9 => h9) rfl dX9_priceOf_43 ?_
      refine lv_iload hx hb dX9_priceOf_46 (lv_at hl 0 rfl) ?_
      obtain ⟨h_16, hfn⟩ := zg_s hfn
      refine va_iald hx hb hK hP 6 3 rfl rfl h_16 dX9_priceOf_48 ?_
      refine lv_goto (tgt := 53) hx hb dX9_priceOf_49 (of_decide_eq_true rfl) ?_
      refine lv_iadd hx hb dX9_priceOf_53 ?_
      refine lv_istore_n (lv' := [(2, .int (s_5.1 + (f6 o_7.toNatClampNeg))), (4, .int o_7), (3, .int s_5.2), (0, .ref h0), (1, .ref h1)]) hx hb dX9_priceOf_54 rfl hl (of_decide_eq_true rfl) rfl (fun ls hl => ?_)
      refine lv_iinc (v := (s_5.2 + 1)) (lv' := [(3, .int (s_5.2 + 1)), (2, .int (s_5.1 + (f6 o_7.toNatClampNeg))), (4, .int o_7), (0, .ref h0), (1, .ref h1)]) hx hb dX9_priceOf_55 hl (k := 2) rfl rfl (of_decide_eq_true rfl) rfl (fun ls hl => ?_)
      refine lv_goto (tgt := 13) hx hb dX9_priceOf_58 (of_decide_eq_true rfl) ?_
      exact ih_5 ((s_5.1 + (f6 o_7.toNatClampNeg)), (s_5.2 + 1)) H locs ls hfn hP hD hS (lv_sub hl [0, 1, 3, 4] rfl)
  exact lp_5 _ ((v0_5 * o_1), 0) H locs ls hfn hP hD hS (lv_sub hl [0, 1, 2, 3] rfl)
theorem zn_X1_keep_X1 : ∀ w ∈ wsX10, w ∈ wsX1_keep := fun _ h => List.mem_cons_of_mem _ (List.mem_append_left _ (List.mem_append_left _ (List.mem_append_left _ (List.mem_append_right _ h))))
theorem zw_X1_keep_214 : Cond.fieldLink RX1 68 "ShortEnough$FullSearch" "many" "I" ∈ wsX1_keep := List.mem_of_getElem? (i := 1) (by decide +kernel)
theorem zw_X1_keep_215 : Cond.fieldLink RX1 22 "ShortEnough$FullSearch" "prices" "[I" ∈ wsX1_keep := List.mem_of_getElem? (i := 2) (by decide +kernel)
theorem zw_X1_keep_216 : Cond.fieldLink RX1 86 "ShortEnough$FullSearch" "answers" "I" ∈ wsX1_keep := List.mem_of_getElem? (i := 3) (by decide +kernel)
theorem zn_X1_keep_X9 : ∀ w ∈ wsX90, w ∈ wsX1_keep := fun _ h => List.mem_cons_of_mem _ (List.mem_append_left _ (List.mem_append_left _ (List.mem_append_right _ h)))
theorem zw_X1_keep_218 : Cond.fieldLink RX1 48 "ShortEnough$Task" "numbers" "LShortEnough$Numbers;" ∈ wsX1_keep := List.mem_of_getElem? (i := 4) (by decide +kernel)
theorem zn_X1_keep_X4 : ∀ w ∈ wsX40, w ∈ wsX1_keep := fun _ h => List.mem_cons_of_mem _ (List.mem_append_left _ (List.mem_append_right _ h))
theorem zw_X1_keep_220 : Cond.fieldLink RX1 54 "ShortEnough$Numbers" "count" "I" ∈ wsX1_keep := List.mem_of_getElem? (i := 5) (by decide +kernel)
theorem zw_X1_keep_221 : Cond.fieldLink RX1 25 "ShortEnough$FullSearch" "errors" "[I" ∈ wsX1_keep := List.mem_of_getElem? (i := 6) (by decide +kernel)
theorem zw_X1_keep_222 : Cond.fieldLink RX1 12 "ShortEnough$FullSearch" "reckoning" "LShortEnough$Reckoning;" ∈ wsX1_keep := List.mem_of_getElem? (i := 7) (by decide +kernel)
theorem zn_X1_keep_X7 : ∀ w ∈ wsX70, w ∈ wsX1_keep := fun _ h => List.mem_cons_of_mem _ (List.mem_append_right _ h)
theorem zw_X1_keep_224 : Cond.fieldLink RX1 121 "ShortEnough$Reckoning" "errors" "[J" ∈ wsX1_keep := List.mem_of_getElem? (i := 8) (by decide +kernel)
theorem zw_X1_keep_225 : Cond.fieldLink RX1 28 "ShortEnough$FullSearch" "best" "I" ∈ wsX1_keep := List.mem_of_getElem? (i := 9) (by decide +kernel)
theorem zw_X1_keep_226 : Cond.fieldLink RX1 124 "ShortEnough$FullSearch" "bestPrice" "I" ∈ wsX1_keep := List.mem_of_getElem? (i := 10) (by decide +kernel)
set_option maxHeartbeats 4000000 in
set_option maxRecDepth 100000 in
theorem zf_X1_keep (l : Launch) (dC : Nat → ClassId) (dI : Nat → Nat → Nat) (h0 : Nat) (h1 : Nat) (p2 : Int32) (p3 : Int32) (r0_0 : Nat) (r0_1 : Nat) (v0_2 : Int32) (v0_3 : Int32) (r0_4 : Nat) (r0_5 : Nat) (v0_6 : Int32) (v0_7 : Int32) (v0_8 : Int32) (v0_9 : Int32) (v0_10 : Int32) (r0_11 : Nat) (r0_12 : Nat) (r0_13 : Nat) (k1 : Nat) (n1 : Nat) (f1 : Nat → Int32) (v2_0 : Int32) (r2_1 : Nat) (r2_2 : Nat) (r2_3 : Nat) (r2_4 : Nat) (v2_5 : Int32) (r2_6 : Nat) (r2_7 : Nat) (r2_8 : Nat) (v3_0 : Int32) (v3_1 : Int32) (r3_2 : Nat) (r3_3 : Nat) (r3_4 : Nat) (r3_5 : Nat) (r3_6 : Nat) (r3_7 : Nat) (r3_8 : Nat) (r3_9 : Nat) (k4 : Nat) (f4 : Nat → Int32) (k5 : Nat) (n5 : Nat) (f5 : Nat → Int32) (r6_0 : Nat) (v6_1 : Int32) (v6_2 : Int32) (k7 : Nat) (f7 : Nat → Int64) (o : Int32 × Int32 × Int32 × (Nat → Int32) × (Nat → Int32)) (hfn : fn_X1_keep p2 p3 v0_3 v0_6 v0_7 v0_8 n1 f1 v3_0 f4 n5 f5 f7 = some o) (sz : Nat) : zMv l yX1_keep wsX1_keep ({ frames := 2, cells := 0, slots := 0, locals := 42 }) (dC, dI) vwCl [.ref h0, .ref h1, .int p2, .int p3] [zV1 h0 r0_0 r0_1 v0_2 v0_3 r0_4 r0_5 v0_6 v0_7 v0_8 v0_9 v0_10 r0_11 r0_12 r0_13, zVi r0_4 k1 n1 f1, zV9 h1 v2_0 r2_1 r2_2 r2_3 r2_4 v2_5 r2_6 r2_7 r2_8, zV4 r2_6 v3_0 v3_1 r3_2 r3_3 r3_4 r3_5 r3_6 r3_7 r3_8 r3_9, zVi r3_5 k4 14 f4, zVi r0_5 k5 n5 f5, zV7 r0_0 r6_0 v6_1 v6_2, zVl r6_0 k7 14 f7] [(k1, .int), (k4, .int), (k5, .int), (k7, .long)] (fun _ => True) [zV1 h0 r0_0 r0_1 v0_2 v0_3 r0_4 r0_5 o.1 o.2.1 o.2.2.1 v0_9 v0_10 r0_11 r0_12 r0_13, zVi r0_4 k1 n1 o.2.2.2.1, zV9 h1 v2_0 r2_1 r2_2 r2_3 r2_4 v2_5 r2_6 r2_7 r2_8, zV4 r2_6 v3_0 v3_1 r3_2 r3_3 r3_4 r3_5 r3_6 r3_7 r3_8 r3_9, zVi r3_5 k4 14 f4, zVi r0_5 k5 n5 o.2.2.2.2, zV7 r0_0 r6_0 v6_1 v6_2, zVl r6_0 k7 14 f7] [(k1, .int), (k4, .int), (k5, .int), (k7, .long)] sz := by
  refine zgov (cc := cX1_keep) (maxL := 6) (ret := none) (C0 := RX1) (lv0 := [(0, .ref h0), (1, .ref h1), (2, .int p2), (3, .int p3)]) zpl_X1 rfl rfl rfl (Nat.le_of_ble_eq_true rfl) ?_
  intro p e s m below meth c A ls Q hx hb hr hts hown hlocks hml hP hK hD hA hS hl hQ
  unfold fn_X1_keep at hfn
  refine lv_aload_n hx hb dX1_keep_0 rfl (lv_at hl 0 rfl) ?_
  refine va_get (D := (dC, dI)) (ci := 1) (v := .int v0_6) (C := RX1) (T := TX1) (N := 14) hx hb hts zn_X1_keep_X1 hown hK hP 0 rfl rfl 6 (of_decide_eq_true rfl) (hts (.fieldLink RX1 68 "ShortEnough$FullSearch" "many" "I") zw_X1_keep_214) (fun _ h9 => h9) rfl dX1_keep_1 ?_
  refine lv_aload_n hx hb dX1_keep_4 rfl (lv_at hl 0 rfl) ?_
  refine va_get (D := (dC, dI)) (ci := 1) (v := .ref r0_4) (C := RX1) (T := TX1) (N := 14) hx hb hts zn_X1_keep_X1 hown hK hP 0 rfl rfl 4 (of_decide_eq_true rfl) (hts (.fieldLink RX1 22 "ShortEnough$FullSearch" "prices" "[I") zw_X1_keep_215) (fun _ h9 => h9) rfl dX1_keep_5 ?_
  refine va_alen (v := (Int32.ofNat n1)) hx hb hK hP 1 0 rfl rfl rfl dX1_keep_8 ?_
  refine lv_icmp_lt (tgt := 13) hx hb dX1_keep_9 (of_decide_eq_true rfl) (fun c_1 => ?_) (fun c_1 => ?_)
  · have hfn := (if_pos c_1).symm.trans hfn
    refine lv_aload_n hx hb dX1_keep_13 rfl (lv_at hl 0 rfl) ?_
    refine va_get (D := (dC, dI)) (ci := 1) (v := .ref r0_4) (C := RX1) (T := TX1) (N := 14) hx hb hts zn_X1_keep_X1 hown hK hP 0 rfl rfl 4 (of_decide_eq_true rfl) (hts (.fieldLink RX1 22 "ShortEnough$FullSearch" "prices" "[I") zw_X1_keep_215) (fun _ h9 => h9) rfl dX1_keep_14 ?_
    refine lv_aload_n hx hb dX1_keep_17 rfl (lv_at hl 0 rfl) ?_
    refine va_get (D := (dC, dI)) (ci := 1) (v := .int v0_6) (C := RX1) (T := TX1) (N := 14) hx hb hts zn_X1_keep_X1 hown hK hP 0 rfl rfl 6 (of_decide_eq_true rfl) (hts (.fieldLink RX1 68 "ShortEnough$FullSearch" "many" "I") zw_X1_keep_214) (fun _ h9 => h9) rfl dX1_keep_18 ?_
    refine lv_iload_n hx hb dX1_keep_21 rfl (lv_at hl 3 rfl) ?_
    obtain ⟨h_2, hfn⟩ := zg_s hfn
    refine va_iast hx hb hK hP hD hS 1 0 rfl rfl h_2 dX1_keep_22 (fun H locs hP hD hS => ?_)
    have hP : va_P (dC, dI) vwCl [zV1 h0 r0_0 r0_1 v0_2 v0_3 r0_4 r0_5 v0_6 v0_7 v0_8 v0_9 v0_10 r0_11 r0_12 r0_13, zVi r0_4 k1 n1 (upd f1 v0_6.toNatClampNeg p3), zV9 h1 v2_0 r2_1 r2_2 r2_3 r2_4 v2_5 r2_6 r2_7 r2_8, zV4 r2_6 v3_0 v3_1 r3_2 r3_3 r3_4 r3_5 r3_6 r3_7 r3_8 r3_9, zVi r3_5 k4 14 f4, zVi r0_5 k5 n5 f5, zV7 r0_0 r6_0 v6_1 v6_2, zVl r6_0 k7 14 f7] H := hP
    have hD := zDW hD hP rfl
    refine lv_aload_n hx hb dX1_keep_23 rfl (lv_at hl 0 rfl) ?_
    refine va_get (D := (dC, dI)) (ci := 1) (v := .int v0_6) (C := RX1) (T := TX1) (N := 14) hx hb hts zn_X1_keep_X1 hown hK hP 0 rfl rfl 6 (of_decide_eq_true rfl) (hts (.fieldLink RX1 68 "ShortEnough$FullSearch" "many" "I") zw_X1_keep_214) (fun _ h9 => h9) rfl dX1_keep_24 ?_
    refine lv_aload_n hx hb dX1_keep_27 rfl (lv_at hl 0 rfl) ?_
    refine va_get (D := (dC, dI)) (ci := 1) (v := .int v0_3) (C := RX1) (T := TX1) (N := 14) hx hb hts zn_X1_keep_X1 hown hK hP 0 rfl rfl 3 (of_decide_eq_true rfl) (hts (.fieldLink RX1 86 "ShortEnough$FullSearch" "answers" "I") zw_X1_keep_216) (fun _ h9 => h9) rfl dX1_keep_28 ?_
    refine lv_imul hx hb dX1_keep_31 ?_
    refine lv_istore (lv' := [(4, .int (v0_6 * v0_3)), (0, .ref h0), (1, .ref h1), (2, .int p2), (3, .int p3)]) hx hb dX1_keep_32 hl (of_decide_eq_true rfl) rfl (fun ls hl => ?_)
    refine lv_iconst (v := 0) hx hb dX1_keep_34 zci_0 ?_
    refine lv_istore (lv' := [(5, .int 0), (4, .int (v0_6 * v0_3)), (0, .ref h0), (1, .ref h1), (2, .int p2), (3, .int p3)]) hx hb dX1_keep_35 hl (of_decide_eq_true rfl) rfl (fun ls hl => ?_)
    obtain ⟨bd_3, ebd_3, hfn⟩ := zl_g hfn
    have lp_3 : ∀ (n : Nat) (s_3 : Int32 × Int32 × (Nat → Int32)) (H : Heap) (locs : List Loc) (ls : Array Slot), zl bd_3 n s_3 = some o → va_P (dC, dI) vwCl [zV1 h0 r0_0 r0_1 v0_2 v0_3 r0_4 r0_5 v0_6 v0_7 v0_8 v0_9 v0_10 r0_11 r0_12 r0_13, zVi r0_4 k1 n1 (upd f1 v0_6.toNatClampNeg p3), zV9 h1 v2_0 r2_1 r2_2 r2_3 r2_4 v2_5 r2_6 r2_7 r2_8, zV4 r2_6 v3_0 v3_1 r3_2 r3_3 r3_4 r3_5 r3_6 r3_7 r3_8 r3_9, zVi r3_5 k4 14 f4, zVi r0_5 k5 n5 s_3.2.2, zV7 r0_0 r6_0 v6_1 v6_2, zVl r6_0 k7 14 f7] H → va_D A [zV1 h0 r0_0 r0_1 v0_2 v0_3 r0_4 r0_5 v0_6 v0_7 v0_8 v0_9 v0_10 r0_11 r0_12 r0_13, zVi r0_4 k1 n1 (upd f1 v0_6.toNatClampNeg p3), zV9 h1 v2_0 r2_1 r2_2 r2_3 r2_4 v2_5 r2_6 r2_7 r2_8, zV4 r2_6 v3_0 v3_1 r3_2 r3_3 r3_4 r3_5 r3_6 r3_7 r3_8 r3_9, zVi r3_5 k4 14 f4, zVi r0_5 k5 n5 s_3.2.2, zV7 r0_0 r6_0 v6_1 v6_2, zVl r6_0 k7 14 f7] → va_S A s.heap H locs → lv_has ls 6 [(5, .int s_3.2.1), (4, .int s_3.1), (0, .ref h0), (1, .ref h1), (2, .int p2), (3, .int p3)] → W p l e (headSpec wsX1_keep ({ frames := 2, cells := 0, slots := 0, locals := 42 })).room s m ([.ref h0, .ref h1, .int p2, .int p3] : List Value).toArray below meth c H locs 0 0 Q (F0 m 37 ls []) := by
      intro n
      induction n with
      | zero => exact fun _ _ _ _ hfn => (zl_0 hfn).elim
      | succ n ih_3 =>
        intro s_3 H locs ls hfn hP hD hS hl
        have hfn := zl_s ebd_3 hfn
        refine lv_iload hx hb dX1_keep_37 (lv_at hl 0 rfl) ?_
        refine lv_aload_n hx hb dX1_keep_39 rfl (lv_at hl 3 rfl) ?_
        refine va_get (D := (dC, dI)) (ci := 9) (v := .ref r2_6) (C := RX9) (T := TX9) (N := 9) hx hb hts zn_X1_keep_X9 hown hK hP 2 rfl rfl 6 (of_decide_eq_true rfl) (hts (.fieldLink RX1 48 "ShortEnough$Task" "numbers" "LShortEnough$Numbers;") zw_X1_keep_218) (fun _ h9 => h9) rfl dX1_keep_40 ?_
        refine va_get (D := (dC, dI)) (ci := 4) (v := .int v3_0) (C := RX4) (T := TX4) (N := 10) hx hb hts zn_X1_keep_X4 hown hK hP 3 rfl rfl 0 (of_decide_eq_true rfl) (hts (.fieldLink RX1 54 "ShortEnough$Numbers" "count" "I") zw_X1_keep_220) (fun _ h9 => h9) rfl dX1_keep_43 ?_
        refine lv_icmp_ge (tgt := 95) hx hb dX1_keep_46 (of_decide_eq_true rfl) (fun c_4 => ?_) (fun c_4 => ?_)
        · have hfn := (if_pos c_4).symm.trans hfn
          refine lv_aload_n hx hb dX1_keep_95 rfl (lv_at hl 2 rfl) ?_
          refine va_get (D := (dC, dI)) (ci := 1) (v := .int v0_7) (C := RX1) (T := TX1) (N := 14) hx hb hts zn_X1_keep_X1 hown hK hP 0 rfl rfl 7 (of_decide_eq_true rfl) (hts (.fieldLink RX1 28 "ShortEnough$FullSearch" "best" "I") zw_X1_keep_225) (fun _ h9 => h9) rfl dX1_keep_96 ?_
          refine lv_iconst (v := (-1)) hx hb dX1_keep_99 zci_m1 ?_
          obtain ⟨j_5, ej_5, hfn⟩ := zj_g hfn
          have jp_5 : ∀ (s_5 : Unit) (H : Heap) (locs : List Loc) (ls : Array Slot), j_5 s_5 = some o → va_P (dC, dI) vwCl [zV1 h0 r0_0 r0_1 v0_2 v0_3 r0_4 r0_5 v0_6 v0_7 v0_8 v0_9 v0_10 r0_11 r0_12 r0_13, zVi r0_4 k1 n1 (upd f1 v0_6.toNatClampNeg p3), zV9 h1 v2_0 r2_1 r2_2 r2_3 r2_4 v2_5 r2_6 r2_7 r2_8, zV4 r2_6 v3_0 v3_1 r3_2 r3_3 r3_4 r3_5 r3_6 r3_7 r3_8 r3_9, zVi r3_5 k4 14 f4, zVi r0_5 k5 n5 s_3.2.2, zV7 r0_0 r6_0 v6_1 v6_2, zVl r6_0 k7 14 f7] H → va_D A [zV1 h0 r0_0 r0_1 v0_2 v0_3 r0_4 r0_5 v0_6 v0_7 v0_8 v0_9 v0_10 r0_11 r0_12 r0_13, zVi r0_4 k1 n1 (upd f1 v0_6.toNatClampNeg p3), zV9 h1 v2_0 r2_1 r2_2 r2_3 r2_4 v2_5 r2_6 r2_7 r2_8, zV4 r2_6 v3_0 v3_1 r3_2 r3_3 r3_4 r3_5 r3_6 r3_7 r3_8 r3_9, zVi r3_5 k4 14 f4, zVi r0_5 k5 n5 s_3.2.2, zV7 r0_0 r6_0 v6_1 v6_2, zVl r6_0 k7 14 f7] → va_S A s.heap H locs → lv_has ls 6 [(0, .ref h0), (2, .int p2), (3, .int p3)] → W p l e (headSpec wsX1_keep ({ frames := 2, cells := 0, slots := 0, locals := 42 })).room s m ([.ref h0, .ref h1, .int p2, .int p3] : List Value).toArray below meth c H locs 0 0 Q (F0 m 111 ls []) := by
            intro s_5 H locs ls hfn hP hD hS hl
            have hfn := zj_s ej_5 hfn
            refine lv_aload_n hx hb dX1_keep_111 rfl (lv_at hl 0 rfl) ?_
            refine lv_iload_n hx hb dX1_keep_112 rfl (lv_at hl 1 rfl) ?_
            refine va_put (D := (dC, dI)) (ci := 1) (v := .int p2) (ty := .int) (C := RX1) (T := TX1) (N := 14) hx hb hts zn_X1_keep_X1 tyX1 tyX1_ok nmX1 hown hK hP hD hS 0 rfl rfl 7 (of_decide_eq_true rfl) (hts (.fieldLink RX1 28 "ShortEnough$FullSearch" "best" "I") zw_X1_keep_225) (fun _ h9 => h9) rfl (tyX1_ok 7 (of_decide_eq_true rfl)) rfl rfl (Nat.le_of_ble_eq_true rfl) dX1_keep_113 (fun H locs hP hD hS => ?_)
            have hP : va_P (dC, dI) vwCl [zV1 h0 r0_0 r0_1 v0_2 v0_3 r0_4 r0_5 v0_6 p2 v0_8 v0_9 v0_10 r0_11 r0_12 r0_13, zVi r0_4 k1 n1 (upd f1 v0_6.toNatClampNeg p3), zV9 h1 v2_0 r2_1 r2_2 r2_3 r2_4 v2_5 r2_6 r2_7 r2_8, zV4 r2_6 v3_0 v3_1 r3_2 r3_3 r3_4 r3_5 r3_6 r3_7 r3_8 r3_9, zVi r3_5 k4 14 f4, zVi r0_5 k5 n5 s_3.2.2, zV7 r0_0 r6_0 v6_1 v6_2, zVl r6_0 k7 14 f7] H := hP
            have hD := zDW hD hP rfl
            refine lv_aload_n hx hb dX1_keep_116 rfl (lv_at hl 0 rfl) ?_
            refine lv_iload_n hx hb dX1_keep_117 rfl (lv_at hl 2 rfl) ?_
            refine va_put (D := (dC, dI)) (ci := 1) (v := .int p3) (ty := .int) (C := RX1) (T := TX1) (N := 14) hx hb hts zn_X1_keep_X1 tyX1 tyX1_ok nmX1 hown hK hP hD hS 0 rfl rfl 8 (of_decide_eq_true rfl) (hts (.fieldLink RX1 124 "ShortEnough$FullSearch" "bestPrice" "I") zw_X1_keep_226) (fun _ h9 => h9) rfl (tyX1_ok 8 (of_decide_eq_true rfl)) rfl rfl (Nat.le_of_ble_eq_true rfl) dX1_keep_118 (fun H locs hP hD hS => ?_)
            have hP : va_P (dC, dI) vwCl [zV1 h0 r0_0 r0_1 v0_2 v0_3 r0_4 r0_5 v0_6 p2 p3 v0_9 v0_10 r0_11 r0_12 r0_13, zVi r0_4 k1 n1 (upd f1 v0_6.toNatClampNeg p3), zV9 h1 v2_0 r2_1 r2_2 r2_3 r2_4 v2_5 r2_6 r2_7 r2_8, zV4 r2_6 v3_0 v3_1 r3_2 r3_3 r3_4 r3_5 r3_6 r3_7 r3_8 r3_9, zVi r3_5 k4 14 f4, zVi r0_5 k5 n5 s_3.2.2, zV7 r0_0 r6_0 v6_1 v6_2, zVl r6_0 k7 14 f7] H := hP
            have hD := zDW hD hP rfl
            refine lv_aload_n hx hb dX1_keep_121 rfl (lv_at hl 0 rfl) ?_
            refine lv_dup hx hb dX1_keep_122 rfl ?_
            refine va_get (D := (dC, dI)) (ci := 1) (v := .int v0_6) (C := RX1) (T := TX1) (N := 14) hx hb hts zn_X1_keep_X1 hown hK hP 0 rfl rfl 6 (of_decide_eq_true rfl) (hts (.fieldLink RX1 68 "ShortEnough$FullSearch" "many" "I") zw_X1_keep_214) (fun _ h9 => h9) rfl dX1_keep_123 ?_
            refine lv_iconst (v := 1) hx hb dX1_keep_126 zci_1 ?_
            refine lv_iadd hx hb dX1_keep_127 ?_
            refine va_put (D := (dC, dI)) (ci := 1) (v := .int (v0_6 + 1)) (ty := .int) (C := RX1) (T := TX1) (N := 14) hx hb hts zn_X1_keep_X1 tyX1 tyX1_ok nmX1 hown hK hP hD hS 0 rfl rfl 6 (of_decide_eq_true rfl) (hts (.fieldLink RX1 68 "ShortEnough$FullSearch" "many" "I") zw_X1_keep_214) (fun _ h9 => h9) rfl (tyX1_ok 6 (of_decide_eq_true rfl)) rfl rfl (Nat.le_of_ble_eq_true rfl) dX1_keep_128 (fun H locs hP hD hS => ?_)
            have hP : va_P (dC, dI) vwCl [zV1 h0 r0_0 r0_1 v0_2 v0_3 r0_4 r0_5 (v0_6 + 1) p2 p3 v0_9 v0_10 r0_11 r0_12 r0_13, zVi r0_4 k1 n1 (upd f1 v0_6.toNatClampNeg p3), zV9 h1 v2_0 r2_1 r2_2 r2_3 r2_4 v2_5 r2_6 r2_7 r2_8, zV4 r2_6 v3_0 v3_1 r3_2 r3_3 r3_4 r3_5 r3_6 r3_7 r3_8 r3_9, zVi r3_5 k4 14 f4, zVi r0_5 k5 n5 s_3.2.2, zV7 r0_0 r6_0 v6_1 v6_2, zVl r6_0 k7 14 f7] H := hP
            have hD := zDW hD hP rfl
            have ho := Option.some.inj hfn
            subst ho
            exact zrv hx hb hr hK hP hD hS hQ trivial hlocks dX1_keep_131
          refine lv_icmp_eq (tgt := 111) hx hb dX1_keep_100 (of_decide_eq_true rfl) (fun c_6 => ?_) (fun c_6 => ?_)
          · have hfn := (if_pos c_6).symm.trans hfn
            exact jp_5 () H locs ls hfn hP hD hS (lv_sub hl [2, 4, 5] rfl)
          have hfn := (if_neg c_6).symm.trans hfn
          refine lv_iload_n hx hb dX1_keep_103 rfl (lv_at hl 5 rfl) ?_
          refine lv_aload_n hx hb dX1_keep_104 rfl (lv_at hl 2 rfl) ?_
          refine va_get (D := (dC, dI)) (ci := 1) (v := .int v0_8) (C := RX1) (T := TX1) (N := 14) hx hb hts zn_X1_keep_X1 hown hK hP 0 rfl rfl 8 (of_decide_eq_true rfl) (hts (.fieldLink RX1 124 "ShortEnough$FullSearch" "bestPrice" "I") zw_X1_keep_226) (fun _ h9 => h9) rfl dX1_keep_105 ?_
          refine lv_icmp_ge (tgt := 121) hx hb dX1_keep_108 (of_decide_eq_true rfl) (fun c_7 => ?_) (fun c_7 => ?_)
          · have hfn := (if_pos c_7).symm.trans hfn
            refine lv_aload_n hx hb dX1_keep_121 rfl (lv_at hl 2 rfl) ?_
            refine lv_dup hx hb dX1_keep_122 rfl ?_
            refine va_get (D := (dC, dI)) (ci := 1) (v := .int v0_6) (C := RX1) (T := TX1) (N := 14) hx hb hts zn_X1_keep_X1 hown hK hP 0 rfl rfl 6 (of_decide_eq_true rfl) (hts (.fieldLink RX1 68 "ShortEnough$FullSearch" "many" "I") zw_X1_keep_214) (fun _ h9 => h9) rfl dX1_keep_123 ?_
            refine lv_iconst (v := 1) hx hb dX1_keep_126 zci_1 ?_
            refine lv_iadd hx hb dX1_keep_127 ?_
            refine va_put (D := (dC, dI)) (ci := 1) (v := .int (v0_6 + 1)) (ty := .int) (C := RX1) (T := TX1) (N := 14) hx hb hts zn_X1_keep_X1 tyX1 tyX1_ok nmX1 hown hK hP hD hS 0 rfl rfl 6 (of_decide_eq_true rfl) (hts (.fieldLink RX1 68 "ShortEnough$FullSearch" "many" "I") zw_X1_keep_214) (fun _ h9 => h9) rfl (tyX1_ok 6 (of_decide_eq_true rfl)) rfl rfl (Nat.le_of_ble_eq_true rfl) dX1_keep_128 (fun H locs hP hD hS => ?_)
            have hP : va_P (dC, dI) vwCl [zV1 h0 r0_0 r0_1 v0_2 v0_3 r0_4 r0_5 (v0_6 + 1) v0_7 v0_8 v0_9 v0_10 r0_11 r0_12 r0_13, zVi r0_4 k1 n1 (upd f1 v0_6.toNatClampNeg p3), zV9 h1 v2_0 r2_1 r2_2 r2_3 r2_4 v2_5 r2_6 r2_7 r2_8, zV4 r2_6 v3_0 v3_1 r3_2 r3_3 r3_4 r3_5 r3_6 r3_7 r3_8 r3_9, zVi r3_5 k4 14 f4, zVi r0_5 k5 n5 s_3.2.2, zV7 r0_0 r6_0 v6_1 v6_2, zVl r6_0 k7 14 f7] H := hP
            have hD := zDW hD hP rfl
            have ho := Option.some.inj hfn
            subst ho
            exact zrv hx hb hr hK hP hD hS hQ trivial hlocks dX1_keep_131
          have hfn := (if_neg c_7).symm.trans hfn
          exact jp_5 () H locs ls hfn hP hD hS (lv_sub hl [2, 4, 5] rfl)
        have hfn := (if_neg c_4).symm.trans hfn
        refine lv_aload_n hx hb dX1_keep_49 rfl (lv_at hl 3 rfl) ?_
        refine lv_iload hx hb dX1_keep_50 (lv_at hl 0 rfl) ?_
        obtain ⟨o_8, hqo_8, hfn⟩ := zb_s hfn
        refine zcVb (ci := 9) (rest := []) (pc' := 55) (ws' := [zV1 h0 r0_0 r0_1 v0_2 v0_3 r0_4 r0_5 v0_6 v0_7 v0_8 v0_9 v0_10 r0_11 r0_12 r0_13, zVi r0_4 k1 n1 (upd f1 v0_6.toNatClampNeg p3), zV9 h1 v2_0 r2_1 r2_2 r2_3 r2_4 v2_5 r2_6 r2_7 r2_8, zV4 r2_6 v3_0 v3_1 r3_2 r3_3 r3_4 r3_5 r3_6 r3_7 r3_8 r3_9, zVi r3_5 k4 14 f4, zVi r0_5 k5 n5 s_3.2.2, zV7 r0_0 r6_0 v6_1 v6_2, zVl r6_0 k7 14 f7]) hP hK hD hS hA ⟨hx, hb, hml, hown, hts⟩ (zf_X9_isAnswer l dC dI h1 s_3.2.1 v2_0 r2_1 r2_2 r2_3 r2_4 v2_5 r2_6 r2_7 r2_8 v3_0 v3_1 r3_2 r3_3 r3_4 r3_5 r3_6 r3_7 r3_8 r3_9 k4 f4 o_8 hqo_8 H.size) (cwV 1 hts gX1_keep_X9_isAnswer rfl rfl rfl zhd_X9_isAnswer ⟨Nat.le_of_ble_eq_true rfl, Nat.le_of_ble_eq_true rfl⟩) [2, 3, 4] rfl (of_decide_eq_true rfl) [1] rfl rfl rfl rfl hl.1 rfl (Nat.le_of_ble_eq_true rfl) dX1_keep_52 ⟨Nat.le_of_ble_eq_true rfl, Nat.le_of_ble_eq_true rfl⟩ [none, none, some 0, some 1, some 2] (of_decide_eq_true rfl) (of_decide_eq_true rfl) rfl rfl rfl (fun H locs hw_11n hP hD hS => ?_)
        refine lv_if_eq (tgt := 89) hx hb dX1_keep_55 (of_decide_eq_true rfl) (fun c_12 => ?_) (fun c_12 => ?_)
        · have hfn := (if_pos c_12).symm.trans hfn
          refine lv_iinc (v := (s_3.2.1 + 1)) (lv' := [(5, .int (s_3.2.1 + 1)), (4, .int s_3.1), (0, .ref h0), (1, .ref h1), (2, .int p2), (3, .int p3)]) hx hb dX1_keep_89 hl (k := 0) rfl rfl (of_decide_eq_true rfl) rfl (fun ls hl => ?_)
          refine lv_goto (tgt := 37) hx hb dX1_keep_92 (of_decide_eq_true rfl) ?_
          exact ih_3 (s_3.1, (s_3.2.1 + 1), s_3.2.2) H locs ls hfn hP hD hS (lv_sub hl [0, 1, 2, 3, 4, 5] rfl)
        have hfn := (if_neg c_12).symm.trans hfn
        refine lv_iload hx hb dX1_keep_58 (lv_at hl 1 rfl) ?_
        refine lv_aload_n hx hb dX1_keep_60 rfl (lv_at hl 2 rfl) ?_
        refine va_get (D := (dC, dI)) (ci := 1) (v := .ref r0_5) (C := RX1) (T := TX1) (N := 14) hx hb hts zn_X1_keep_X1 hown hK hP 0 rfl rfl 5 (of_decide_eq_true rfl) (hts (.fieldLink RX1 25 "ShortEnough$FullSearch" "errors" "[I") zw_X1_keep_221) (fun _ h9 => h9) rfl dX1_keep_61 ?_
        refine va_alen (v := (Int32.ofNat n5)) hx hb hK hP 5 2 rfl rfl rfl dX1_keep_64 ?_
        refine lv_icmp_ge (tgt := 89) hx hb dX1_keep_65 (of_decide_eq_true rfl) (fun c_13 => ?_) (fun c_13 => ?_)
        · have hfn := (if_pos c_13).symm.trans hfn
          refine lv_iinc (v := (s_3.2.1 + 1)) (lv' := [(5, .int (s_3.2.1 + 1)), (4, .int s_3.1), (0, .ref h0), (1, .ref h1), (2, .int p2), (3, .int p3)]) hx hb dX1_keep_89 hl (k := 0) rfl rfl (of_decide_eq_true rfl) rfl (fun ls hl => ?_)
          refine lv_goto (tgt := 37) hx hb dX1_keep_92 (of_decide_eq_true rfl) ?_
          exact ih_3 (s_3.1, (s_3.2.1 + 1), s_3.2.2) H locs ls hfn hP hD hS (lv_sub hl [0, 1, 2, 3, 4, 5] rfl)
        have hfn := (if_neg c_13).symm.trans hfn
        refine lv_aload_n hx hb dX1_keep_68 rfl (lv_at hl 2 rfl) ?_
        refine va_get (D := (dC, dI)) (ci := 1) (v := .ref r0_5) (C := RX1) (T := TX1) (N := 14) hx hb hts zn_X1_keep_X1 hown hK hP 0 rfl rfl 5 (of_decide_eq_true rfl) (hts (.fieldLink RX1 25 "ShortEnough$FullSearch" "errors" "[I") zw_X1_keep_221) (fun _ h9 => h9) rfl dX1_keep_69 ?_
        refine lv_iload hx hb dX1_keep_72 (lv_at hl 1 rfl) ?_
        refine lv_aload_n hx hb dX1_keep_74 rfl (lv_at hl 2 rfl) ?_
        refine va_get (D := (dC, dI)) (ci := 1) (v := .ref r0_0) (C := RX1) (T := TX1) (N := 14) hx hb hts zn_X1_keep_X1 hown hK hP 0 rfl rfl 0 (of_decide_eq_true rfl) (hts (.fieldLink RX1 12 "ShortEnough$FullSearch" "reckoning" "LShortEnough$Reckoning;") zw_X1_keep_222) (fun _ h9 => h9) rfl dX1_keep_75 ?_
        refine va_get (D := (dC, dI)) (ci := 7) (v := .ref r6_0) (C := RX7) (T := TX7) (N := 3) hx hb hts zn_X1_keep_X7 hown hK hP 6 rfl rfl 0 (of_decide_eq_true rfl) (hts (.fieldLink RX1 121 "ShortEnough$Reckoning" "errors" "[J") zw_X1_keep_224) (fun _ h9 => h9) rfl dX1_keep_78 ?_
        refine lv_iload hx hb dX1_keep_81 (lv_at hl 0 rfl) ?_
        obtain ⟨h_14, hfn⟩ := zg_s hfn
        refine va_lald hx hb hK hP 7 3 rfl rfl h_14 dX1_keep_83 ?_
        refine lv_l2i (v := (f7 s_3.2.1.toNatClampNeg).toInt32) hx hb dX1_keep_84 rfl ?_
        obtain ⟨h_15, hfn⟩ := zg_s hfn
        refine va_iast hx hb hK hP hD hS 5 2 rfl rfl h_15 dX1_keep_85 (fun H locs hP hD hS => ?_)
        obtain ⟨g_16, eg_16⟩ : ∃ g : Nat → Int32, g = (upd s_3.2.2 s_3.1.toNatClampNeg ((f7 s_3.2.1.toNatClampNeg).toInt32)) := ⟨_, rfl⟩
        have hfn := zn_s hfn eg_16
        have hP : va_P (dC, dI) vwCl [zV1 h0 r0_0 r0_1 v0_2 v0_3 r0_4 r0_5 v0_6 v0_7 v0_8 v0_9 v0_10 r0_11 r0_12 r0_13, zVi r0_4 k1 n1 (upd f1 v0_6.toNatClampNeg p3), zV9 h1 v2_0 r2_1 r2_2 r2_3 r2_4 v2_5 r2_6 r2_7 r2_8, zV4 r2_6 v3_0 v3_1 r3_2 r3_3 r3_4 r3_5 r3_6 r3_7 r3_8 r3_9, zVi r3_5 k4 14 f4, zVi r0_5 k5 n5 g_16, zV7 r0_0 r6_0 v6_1 v6_2, zVl r6_0 k7 14 f7] H := by rw [eg_16]; exact hP
        have hD : va_D A [zV1 h0 r0_0 r0_1 v0_2 v0_3 r0_4 r0_5 v0_6 v0_7 v0_8 v0_9 v0_10 r0_11 r0_12 r0_13, zVi r0_4 k1 n1 (upd f1 v0_6.toNatClampNeg p3), zV9 h1 v2_0 r2_1 r2_2 r2_3 r2_4 v2_5 r2_6 r2_7 r2_8, zV4 r2_6 v3_0 v3_1 r3_2 r3_3 r3_4 r3_5 r3_6 r3_7 r3_8 r3_9, zVi r3_5 k4 14 f4, zVi r0_5 k5 n5 g_16, zV7 r0_0 r6_0 v6_1 v6_2, zVl r6_0 k7 14 f7] := by rw [eg_16]; exact hD
        refine lv_iinc (v := (s_3.1 + 1)) (lv' := [(4, .int (s_3.1 + 1)), (5, .int s_3.2.1), (0, .ref h0), (1, .ref h1), (2, .int p2), (3, .int p3)]) hx hb dX1_keep_86 hl (k := 1) rfl rfl (of_decide_eq_true rfl) rfl (fun ls hl => ?_)
        refine lv_iinc (v := (s_3.2.1 + 1)) (lv' := [(5, .int (s_3.2.1 + 1)), (4, .int (s_3.1 + 1)), (0, .ref h0), (1, .ref h1), (2, .int p2), (3, .int p3)]) hx hb dX1_keep_89 hl (k := 1) rfl rfl (of_decide_eq_true rfl) rfl (fun ls hl => ?_)
        refine lv_goto (tgt := 37) hx hb dX1_keep_92 (of_decide_eq_true rfl) ?_
        exact ih_3 ((s_3.1 + 1), (s_3.2.1 + 1), g_16) H locs ls hfn hP hD hS (lv_sub hl [0, 1, 2, 3, 4, 5] rfl)
    exact lp_3 _ ((v0_6 * v0_3), 0, f5) H locs ls hfn hP hD hS (lv_sub hl [0, 1, 2, 3, 4, 5] rfl)
  have hfn := (if_neg c_1).symm.trans hfn
  have ho := Option.some.inj hfn
  subst ho
  exact zrv hx hb hr hK hP hD hS hQ trivial hlocks dX1_keep_12
theorem zn_X1_searchAll_X9 : ∀ w ∈ wsX90, w ∈ wsX1_searchAll := fun _ h => List.mem_cons_of_mem _ (List.mem_append_left _ (List.mem_append_left _ (List.mem_append_left _ (List.mem_append_left _ (List.mem_append_left _ (List.mem_append_right _ h))))))
theorem zw_X1_searchAll_165 : Cond.fieldLink RX1 59 "ShortEnough$Task" "groups" "LShortEnough$Groups;" ∈ wsX1_searchAll := List.mem_of_getElem? (i := 1) (by decide +kernel)
theorem zn_X1_searchAll_X2 : ∀ w ∈ wsX20, w ∈ wsX1_searchAll := fun _ h => List.mem_cons_of_mem _ (List.mem_append_left _ (List.mem_append_left _ (List.mem_append_left _ (List.mem_append_left _ (List.mem_append_right _ h)))))
theorem zw_X1_searchAll_167 : Cond.fieldLink RX1 63 "ShortEnough$Groups" "free" "I" ∈ wsX1_searchAll := List.mem_of_getElem? (i := 2) (by decide +kernel)
theorem zw_X1_searchAll_168 : Cond.fieldLink RX1 79 "ShortEnough$Task" "formats" "I" ∈ wsX1_searchAll := List.mem_of_getElem? (i := 3) (by decide +kernel)
theorem zw_X1_searchAll_169 : Cond.fieldLink RX1 48 "ShortEnough$Task" "numbers" "LShortEnough$Numbers;" ∈ wsX1_searchAll := List.mem_of_getElem? (i := 4) (by decide +kernel)
theorem zn_X1_searchAll_X4 : ∀ w ∈ wsX40, w ∈ wsX1_searchAll := fun _ h => List.mem_cons_of_mem _ (List.mem_append_left _ (List.mem_append_left _ (List.mem_append_left _ (List.mem_append_right _ h))))
theorem zw_X1_searchAll_171 : Cond.fieldLink RX1 54 "ShortEnough$Numbers" "count" "I" ∈ wsX1_searchAll := List.mem_of_getElem? (i := 5) (by decide +kernel)
theorem zn_X1_searchAll_X1 : ∀ w ∈ wsX10, w ∈ wsX1_searchAll := fun _ h => List.mem_cons_of_mem _ (List.mem_append_left _ (List.mem_append_left _ (List.mem_append_right _ h)))
theorem zw_X1_searchAll_176 : Cond.fieldLink RX1 86 "ShortEnough$FullSearch" "answers" "I" ∈ wsX1_searchAll := List.mem_of_getElem? (i := 6) (by decide +kernel)
theorem zw_X1_searchAll_185 : Cond.fieldLink RX1 18 "ShortEnough$FullSearch" "choice" "[I" ∈ wsX1_searchAll := List.mem_of_getElem? (i := 7) (by decide +kernel)
theorem zw_X1_searchAll_192 : Cond.fieldLink RX1 12 "ShortEnough$FullSearch" "reckoning" "LShortEnough$Reckoning;" ∈ wsX1_searchAll := List.mem_of_getElem? (i := 8) (by decide +kernel)
theorem zw_X1_searchAll_193 : Cond.fieldLink RX1 97 "ShortEnough$Task" "ranges" "LShortEnough$Ranges;" ∈ wsX1_searchAll := List.mem_of_getElem? (i := 9) (by decide +kernel)
set_option maxHeartbeats 4000000 in
set_option maxRecDepth 100000 in
theorem zf_X1_searchAll (l : Launch) (dC : Nat → ClassId) (dI : Nat → Nat → Nat) (h0 : Nat) (h1 : Nat) (r0_0 : Nat) (r0_1 : Nat) (v0_2 : Int32) (v0_3 : Int32) (r0_4 : Nat) (r0_5 : Nat) (v0_6 : Int32) (v0_7 : Int32) (v0_8 : Int32) (v0_9 : Int32) (v0_10 : Int32) (r0_11 : Nat) (r0_12 : Nat) (r0_13 : Nat) (v1_0 : Int32) (r1_1 : Nat) (r1_2 : Nat) (r1_3 : Nat) (r1_4 : Nat) (v1_5 : Int32) (r1_6 : Nat) (r1_7 : Nat) (r1_8 : Nat) (v2_0 : Int32) (v2_1 : Int32) (v2_2 : Int32) (r2_3 : Nat) (r2_4 : Nat) (r2_5 : Nat) (v3_0 : Int32) (v3_1 : Int32) (r3_2 : Nat) (r3_3 : Nat) (r3_4 : Nat) (r3_5 : Nat) (r3_6 : Nat) (r3_7 : Nat) (r3_8 : Nat) (r3_9 : Nat) (k4 : Nat) (f4 : Nat → Int32) (k5 : Nat) (n5 : Nat) (f5 : Nat → Int32) (k6 : Nat) (n6 : Nat) (f6 : Nat → Int32) (k7 : Nat) (n7 : Nat) (f7 : Nat → Int32) (k8 : Nat) (n8 : Nat) (f8 : Nat → Int32) (k9 : Nat) (n9 : Nat) (f9 : Nat → Int32) (k10 : Nat) (f10 : Nat → Int32) (k11 : Nat) (f11 : Nat → Int32) (r12_0 : Nat) (v12_1 : Int32) (v12_2 : Int32) (k13 : Nat) (f13 : Nat → Int32) (k14 : Nat) (f14 : Nat → Int32) (k15 : Nat) (f15 : Nat → Int32) (k16 : Nat) (f16 : Nat → Int32) (k17 : Nat) (f17 : Nat → Int64) (k18 : Nat) (f18 : Nat → Int32) (r19_0 : Nat) (r19_1 : Nat) (r19_2 : Nat) (k20 : Nat) (f20 : Nat → Int64) (k21 : Nat) (f21 : Nat → Int64) (k22 : Nat) (f22 : Nat → Int32) (k23 : Nat) (f23 : Nat → Int32) (o : Int32 × Int32 × Int32 × Int32 × (Nat → Int32) × Nat × (Nat → Int32) × Nat × (Nat → Int32) × Nat × (Nat → Int32) × Nat × (Nat → Int32) × Nat × (Nat → Int32) × Int32 × Int32 × (Nat → Int64)) (hfn : fn_X1_searchAll v0_6 v0_7 v0_8 v1_0 v1_5 v2_0 v2_1 v3_0 f4 n5 f5 n6 f6 n7 f7 n8 f8 n9 f9 f10 f11 v12_1 v12_2 f13 f14 f15 f16 f17 f18 f20 f21 f22 f23 = some o) (sz : Nat) : Met l yX1_searchAll wsX1_searchAll ({ frames := 4, cells := 5, slots := 18432, locals := 125 }) (va_Pc [.ref h0, .ref h1] (fun U => va_Nw (.methodLinkNest RX7 90 yX11_divides RX11) U ∧ U.heap.size = sz ∧ va_P (dC, dI) vwCl [zV1 h0 r0_0 r0_1 v0_2 v0_3 r0_4 r0_5 v0_6 v0_7 v0_8 v0_9 v0_10 r0_11 r0_12 r0_13, zV9 h1 v1_0 r1_1 r1_2 r1_3 r1_4 v1_5 r1_6 r1_7 r1_8, zV2 r1_7 v2_0 v2_1 v2_2 r2_3 r2_4 r2_5, zV4 r1_6 v3_0 v3_1 r3_2 r3_3 r3_4 r3_5 r3_6 r3_7 r3_8 r3_9, zVi r3_5 k4 14 f4, zVi r0_4 k5 n5 f5, zVi r0_5 k6 n6 f6, zVi r0_12 k7 n7 f7, zVi r0_11 k8 n8 f8, zVi r0_13 k9 n9 f9, zVi r2_4 k10 14 f10, zVi r0_1 k11 14 f11, zV7 r0_0 r12_0 v12_1 v12_2, zVi r2_3 k13 14 f13, zVi r1_2 k14 4 f14, zVi r3_3 k15 14 f15, zVi r3_8 k16 28 f16, zVl r12_0 k17 14 f17, zVi r3_9 k18 28 f18, zV6 r1_8 r19_0 r19_1 r19_2, zVl r19_0 k20 14 f20, zVl r19_1 k21 14 f21, zVi r1_3 k22 4 f22, zVi r1_4 k23 4 f23] U.heap ∧ va_K (dC, dI) vwCl [(k4, .int), (k5, .int), (k6, .int), (k7, .int), (k8, .int), (k9, .int), (k10, .int), (k11, .int), (k13, .int), (k14, .int), (k15, .int), (k16, .int), (k17, .long), (k18, .int), (k20, .long), (k21, .long), (k22, .int), (k23, .int)] U ∧ va_D (fun _ => True) [zV1 h0 r0_0 r0_1 v0_2 v0_3 r0_4 r0_5 v0_6 v0_7 v0_8 v0_9 v0_10 r0_11 r0_12 r0_13, zV9 h1 v1_0 r1_1 r1_2 r1_3 r1_4 v1_5 r1_6 r1_7 r1_8, zV2 r1_7 v2_0 v2_1 v2_2 r2_3 r2_4 r2_5, zV4 r1_6 v3_0 v3_1 r3_2 r3_3 r3_4 r3_5 r3_6 r3_7 r3_8 r3_9, zVi r3_5 k4 14 f4, zVi r0_4 k5 n5 f5, zVi r0_5 k6 n6 f6, zVi r0_12 k7 n7 f7, zVi r0_11 k8 n8 f8, zVi r0_13 k9 n9 f9, zVi r2_4 k10 14 f10, zVi r0_1 k11 14 f11, zV7 r0_0 r12_0 v12_1 v12_2, zVi r2_3 k13 14 f13, zVi r1_2 k14 4 f14, zVi r3_3 k15 14 f15, zVi r3_8 k16 28 f16, zVl r12_0 k17 14 f17, zVi r3_9 k18 28 f18, zV6 r1_8 r19_0 r19_1 r19_2, zVl r19_0 k20 14 f20, zVl r19_1 k21 14 f21, zVi r1_3 k22 4 f22, zVi r1_4 k23 4 f23])) (va_Qv (fun (u : Nat → Nat) => True) (fun u t => va_P (dC, dI) vwCl [zV1 h0 r0_0 r0_1 v0_2 o.1 (u 0) (u 2) o.2.1 o.2.2.1 o.2.2.2.1 v0_9 v0_10 (u 6) (u 4) (u 8), zV9 h1 v1_0 r1_1 r1_2 r1_3 r1_4 v1_5 r1_6 r1_7 r1_8, zV2 r1_7 v2_0 v2_1 v2_2 r2_3 r2_4 r2_5, zV4 r1_6 v3_0 v3_1 r3_2 r3_3 r3_4 r3_5 r3_6 r3_7 r3_8 r3_9, zVi r3_5 k4 14 f4, zVi (u 0) (u 1) o.2.2.2.2.2.1 o.2.2.2.2.1, zVi (u 2) (u 3) o.2.2.2.2.2.2.2.1 o.2.2.2.2.2.2.1, zVi (u 4) (u 5) o.2.2.2.2.2.2.2.2.2.1 o.2.2.2.2.2.2.2.2.1, zVi (u 6) (u 7) o.2.2.2.2.2.2.2.2.2.2.2.1 o.2.2.2.2.2.2.2.2.2.2.1, zVi (u 8) (u 9) o.2.2.2.2.2.2.2.2.2.2.2.2.2.1 o.2.2.2.2.2.2.2.2.2.2.2.2.1, zVi r2_4 k10 14 f10, zVi r0_1 k11 14 o.2.2.2.2.2.2.2.2.2.2.2.2.2.2.1, zV7 r0_0 r12_0 o.2.2.2.2.2.2.2.2.2.2.2.2.2.2.2.1 o.2.2.2.2.2.2.2.2.2.2.2.2.2.2.2.2.1, zVi r2_3 k13 14 f13, zVi r1_2 k14 4 f14, zVi r3_3 k15 14 f15, zVi r3_8 k16 28 f16, zVl r12_0 k17 14 o.2.2.2.2.2.2.2.2.2.2.2.2.2.2.2.2.2, zVi r3_9 k18 28 f18, zV6 r1_8 r19_0 r19_1 r19_2, zVl r19_0 k20 14 f20, zVl r19_1 k21 14 f21, zVi r1_3 k22 4 f22, zVi r1_4 k23 4 f23] t.heap ∧ va_K (dC, dI) vwCl [(k4, .int), ((u 1), .int), ((u 3), .int), ((u 5), .int), ((u 7), .int), ((u 9), .int), (k10, .int), (k11, .int), (k13, .int), (k14, .int), (k15, .int), (k16, .int), (k17, .long), (k18, .int), (k20, .long), (k21, .long), (k22, .int), (k23, .int)] t ∧ va_D (va_A [zV1 h0 r0_0 r0_1 v0_2 v0_3 r0_4 r0_5 v0_6 v0_7 v0_8 v0_9 v0_10 r0_11 r0_12 r0_13, zV9 h1 v1_0 r1_1 r1_2 r1_3 r1_4 v1_5 r1_6 r1_7 r1_8, zV2 r1_7 v2_0 v2_1 v2_2 r2_3 r2_4 r2_5, zV4 r1_6 v3_0 v3_1 r3_2 r3_3 r3_4 r3_5 r3_6 r3_7 r3_8 r3_9, zVi r3_5 k4 14 f4, zVi r0_4 k5 n5 f5, zVi r0_5 k6 n6 f6, zVi r0_12 k7 n7 f7, zVi r0_11 k8 n8 f8, zVi r0_13 k9 n9 f9, zVi r2_4 k10 14 f10, zVi r0_1 k11 14 f11, zV7 r0_0 r12_0 v12_1 v12_2, zVi r2_3 k13 14 f13, zVi r1_2 k14 4 f14, zVi r3_3 k15 14 f15, zVi r3_8 k16 28 f16, zVl r12_0 k17 14 f17, zVi r3_9 k18 28 f18, zV6 r1_8 r19_0 r19_1 r19_2, zVl r19_0 k20 14 f20, zVl r19_1 k21 14 f21, zVi r1_3 k22 4 f22, zVi r1_4 k23 4 f23] sz) [zV1 h0 r0_0 r0_1 v0_2 o.1 (u 0) (u 2) o.2.1 o.2.2.1 o.2.2.2.1 v0_9 v0_10 (u 6) (u 4) (u 8), zV9 h1 v1_0 r1_1 r1_2 r1_3 r1_4 v1_5 r1_6 r1_7 r1_8, zV2 r1_7 v2_0 v2_1 v2_2 r2_3 r2_4 r2_5, zV4 r1_6 v3_0 v3_1 r3_2 r3_3 r3_4 r3_5 r3_6 r3_7 r3_8 r3_9, zVi r3_5 k4 14 f4, zVi (u 0) (u 1) o.2.2.2.2.2.1 o.2.2.2.2.1, zVi (u 2) (u 3) o.2.2.2.2.2.2.2.1 o.2.2.2.2.2.2.1, zVi (u 4) (u 5) o.2.2.2.2.2.2.2.2.2.1 o.2.2.2.2.2.2.2.2.1, zVi (u 6) (u 7) o.2.2.2.2.2.2.2.2.2.2.2.1 o.2.2.2.2.2.2.2.2.2.2.1, zVi (u 8) (u 9) o.2.2.2.2.2.2.2.2.2.2.2.2.2.1 o.2.2.2.2.2.2.2.2.2.2.2.2.1, zVi r2_4 k10 14 f10, zVi r0_1 k11 14 o.2.2.2.2.2.2.2.2.2.2.2.2.2.2.1, zV7 r0_0 r12_0 o.2.2.2.2.2.2.2.2.2.2.2.2.2.2.2.1 o.2.2.2.2.2.2.2.2.2.2.2.2.2.2.2.2.1, zVi r2_3 k13 14 f13, zVi r1_2 k14 4 f14, zVi r3_3 k15 14 f15, zVi r3_8 k16 28 f16, zVl r12_0 k17 14 o.2.2.2.2.2.2.2.2.2.2.2.2.2.2.2.2.2, zVi r3_9 k18 28 f18, zV6 r1_8 r19_0 r19_1 r19_2, zVl r19_0 k20 14 f20, zVl r19_1 k21 14 f21, zVi r1_3 k22 4 f22, zVi r1_4 k23 4 f23]) (va_A [zV1 h0 r0_0 r0_1 v0_2 v0_3 r0_4 r0_5 v0_6 v0_7 v0_8 v0_9 v0_10 r0_11 r0_12 r0_13, zV9 h1 v1_0 r1_1 r1_2 r1_3 r1_4 v1_5 r1_6 r1_7 r1_8, zV2 r1_7 v2_0 v2_1 v2_2 r2_3 r2_4 r2_5, zV4 r1_6 v3_0 v3_1 r3_2 r3_3 r3_4 r3_5 r3_6 r3_7 r3_8 r3_9, zVi r3_5 k4 14 f4, zVi r0_4 k5 n5 f5, zVi r0_5 k6 n6 f6, zVi r0_12 k7 n7 f7, zVi r0_11 k8 n8 f8, zVi r0_13 k9 n9 f9, zVi r2_4 k10 14 f10, zVi r0_1 k11 14 f11, zV7 r0_0 r12_0 v12_1 v12_2, zVi r2_3 k13 14 f13, zVi r1_2 k14 4 f14, zVi r3_3 k15 14 f15, zVi r3_8 k16 28 f16, zVl r12_0 k17 14 f17, zVi r3_9 k18 28 f18, zV6 r1_8 r19_0 r19_1 r19_2, zVl r19_0 k20 14 f20, zVl r19_1 k21 14 f21, zVi r1_3 k22 4 f22, zVi r1_4 k23 4 f23] sz)) 5 18432 (va_A [zV1 h0 r0_0 r0_1 v0_2 v0_3 r0_4 r0_5 v0_6 v0_7 v0_8 v0_9 v0_10 r0_11 r0_12 r0_13, zV9 h1 v1_0 r1_1 r1_2 r1_3 r1_4 v1_5 r1_6 r1_7 r1_8, zV2 r1_7 v2_0 v2_1 v2_2 r2_3 r2_4 r2_5, zV4 r1_6 v3_0 v3_1 r3_2 r3_3 r3_4 r3_5 r3_6 r3_7 r3_8 r3_9, zVi r3_5 k4 14 f4, zVi r0_4 k5 n5 f5, zVi r0_5 k6 n6 f6, zVi r0_12 k7 n7 f7, zVi r0_11 k8 n8 f8, zVi r0_13 k9 n9 f9, zVi r2_4 k10 14 f10, zVi r0_1 k11 14 f11, zV7 r0_0 r12_0 v12_1 v12_2, zVi r2_3 k13 14 f13, zVi r1_2 k14 4 f14, zVi r3_3 k15 14 f15, zVi r3_8 k16 28 f16, zVl r12_0 k17 14 f17, zVi r3_9 k18 28 f18, zV6 r1_8 r19_0 r19_1 r19_2, zVl r19_0 k20 14 f20, zVl r19_1 k21 14 f21, zVi r1_3 k22 4 f22, zVi r1_4 k23 4 f23] sz) := by
  refine Met.ofW (cc := cX1_searchAll) (maxL := 4) (ret := none) (by decide +kernel) rfl ?_
  intro p e s m args below meth c s₁ B hml hv
  obtain ⟨rfl, hn0, hsz, hP, hK, hD0⟩ := hv
  have hx := B.exec
  have hb := B.bytes
  have hr := B.returns
  have hts := atoms_spec (ws := wsX1_searchAll) B.pre
  have hown : s.vm.findClass RX1 = some m.cls := (findClass_of_methodNamed B.named :)
  have hlocks := B.notSynchronized
  subst hsz
  have hD := hD0.self (sz := s.heap.size)
  generalize hAe : va_A [zV1 h0 r0_0 r0_1 v0_2 v0_3 r0_4 r0_5 v0_6 v0_7 v0_8 v0_9 v0_10 r0_11 r0_12 r0_13, zV9 h1 v1_0 r1_1 r1_2 r1_3 r1_4 v1_5 r1_6 r1_7 r1_8, zV2 r1_7 v2_0 v2_1 v2_2 r2_3 r2_4 r2_5, zV4 r1_6 v3_0 v3_1 r3_2 r3_3 r3_4 r3_5 r3_6 r3_7 r3_8 r3_9, zVi r3_5 k4 14 f4, zVi r0_4 k5 n5 f5, zVi r0_5 k6 n6 f6, zVi r0_12 k7 n7 f7, zVi r0_11 k8 n8 f8, zVi r0_13 k9 n9 f9, zVi r2_4 k10 14 f10, zVi r0_1 k11 14 f11, zV7 r0_0 r12_0 v12_1 v12_2, zVi r2_3 k13 14 f13, zVi r1_2 k14 4 f14, zVi r3_3 k15 14 f15, zVi r3_8 k16 28 f16, zVl r12_0 k17 14 f17, zVi r3_9 k18 28 f18, zV6 r1_8 r19_0 r19_1 r19_2, zVl r19_0 k20 14 f20, zVl r19_1 k21 14 f21, zVi r1_3 k22 4 f22, zVi r1_4 k23 4 f23] s.heap.size = A at hD ⊢
  have hA : ∀ q : Nat, s.heap.size ≤ q → A q := fun q h => by rw [← hAe]; exact Or.inr h
  have hS : va_S A s.heap s.heap [] := va_S.rf
  have hP : va_P (dC, dI) vwCl [zV1 h0 r0_0 r0_1 v0_2 v0_3 r0_4 r0_5 v0_6 v0_7 v0_8 v0_9 v0_10 r0_11 r0_12 r0_13, zV9 h1 v1_0 r1_1 r1_2 r1_3 r1_4 v1_5 r1_6 r1_7 r1_8, zV2 r1_7 v2_0 v2_1 v2_2 r2_3 r2_4 r2_5, zV4 r1_6 v3_0 v3_1 r3_2 r3_3 r3_4 r3_5 r3_6 r3_7 r3_8 r3_9, zVi r3_5 k4 14 f4, zVi r0_4 k5 n5 f5, zVi r0_5 k6 n6 f6, zVi r0_12 k7 n7 f7, zVi r0_11 k8 n8 f8, zVi r0_13 k9 n9 f9, zVi r2_4 k10 14 f10, zVi r0_1 k11 14 f11, zV7 r0_0 r12_0 v12_1 v12_2, zVi r2_3 k13 14 f13, zVi r1_2 k14 4 f14, zVi r3_3 k15 14 f15, zVi r3_8 k16 28 f16, zVl r12_0 k17 14 f17, zVi r3_9 k18 28 f18, zV6 r1_8 r19_0 r19_1 r19_2, zVl r19_0 k20 14 f20, zVl r19_1 k21 14 f21, zVi r1_3 k22 4 f22, zVi r1_4 k23 4 f23] s.heap := hP
  have hl := lv_entry ([.ref h0, .ref h1]) (n := 4) (Nat.le_of_ble_eq_true rfl)
  rw [lg_entry_eq]
  generalize (lg_sl ([.ref h0, .ref h1]) ++ List.replicate (4 - (lg_sl ([.ref h0, .ref h1])).length) Slot.unset).toArray = ls at hl ⊢
  have hl : lv_has ls 4 [(0, .ref h0), (1, .ref h1)] := hl
  refine zQ (fun Q hQ => ?_)
  unfold fn_X1_searchAll at hfn
  refine lv_iconst (v := 1) hx hb dX1_searchAll_0 zci_1 ?_
  refine lv_istore_n (lv' := [(2, .int 1), (0, .ref h0), (1, .ref h1)]) hx hb dX1_searchAll_1 rfl hl (of_decide_eq_true rfl) rfl (fun ls hl => ?_)
  refine lv_iconst (v := 0) hx hb dX1_searchAll_2 zci_0 ?_
  refine lv_istore_n (lv' := [(3, .int 0), (2, .int 1), (0, .ref h0), (1, .ref h1)]) hx hb dX1_searchAll_3 rfl hl (of_decide_eq_true rfl) rfl (fun ls hl => ?_)
  obtain ⟨bd_1, ebd_1, hfn⟩ := zl_g hfn
  have lp_1 : ∀ (n : Nat) (s_1 : Int32 × Int32) (H : Heap) (locs : List Loc) (ls : Array Slot), zl bd_1 n s_1 = some o → va_P (dC, dI) vwCl [zV1 h0 r0_0 r0_1 v0_2 v0_3 r0_4 r0_5 v0_6 v0_7 v0_8 v0_9 v0_10 r0_11 r0_12 r0_13, zV9 h1 v1_0 r1_1 r1_2 r1_3 r1_4 v1_5 r1_6 r1_7 r1_8, zV2 r1_7 v2_0 v2_1 v2_2 r2_3 r2_4 r2_5, zV4 r1_6 v3_0 v3_1 r3_2 r3_3 r3_4 r3_5 r3_6 r3_7 r3_8 r3_9, zVi r3_5 k4 14 f4, zVi r0_4 k5 n5 f5, zVi r0_5 k6 n6 f6, zVi r0_12 k7 n7 f7, zVi r0_11 k8 n8 f8, zVi r0_13 k9 n9 f9, zVi r2_4 k10 14 f10, zVi r0_1 k11 14 f11, zV7 r0_0 r12_0 v12_1 v12_2, zVi r2_3 k13 14 f13, zVi r1_2 k14 4 f14, zVi r3_3 k15 14 f15, zVi r3_8 k16 28 f16, zVl r12_0 k17 14 f17, zVi r3_9 k18 28 f18, zV6 r1_8 r19_0 r19_1 r19_2, zVl r19_0 k20 14 f20, zVl r19_1 k21 14 f21, zVi r1_3 k22 4 f22, zVi r1_4 k23 4 f23] H → va_D A [zV1 h0 r0_0 r0_1 v0_2 v0_3 r0_4 r0_5 v0_6 v0_7 v0_8 v0_9 v0_10 r0_11 r0_12 r0_13, zV9 h1 v1_0 r1_1 r1_2 r1_3 r1_4 v1_5 r1_6 r1_7 r1_8, zV2 r1_7 v2_0 v2_1 v2_2 r2_3 r2_4 r2_5, zV4 r1_6 v3_0 v3_1 r3_2 r3_3 r3_4 r3_5 r3_6 r3_7 r3_8 r3_9, zVi r3_5 k4 14 f4, zVi r0_4 k5 n5 f5, zVi r0_5 k6 n6 f6, zVi r0_12 k7 n7 f7, zVi r0_11 k8 n8 f8, zVi r0_13 k9 n9 f9, zVi r2_4 k10 14 f10, zVi r0_1 k11 14 f11, zV7 r0_0 r12_0 v12_1 v12_2, zVi r2_3 k13 14 f13, zVi r1_2 k14 4 f14, zVi r3_3 k15 14 f15, zVi r3_8 k16 28 f16, zVl r12_0 k17 14 f17, zVi r3_9 k18 28 f18, zV6 r1_8 r19_0 r19_1 r19_2, zVl r19_0 k20 14 f20, zVl r19_1 k21 14 f21, zVi r1_3 k22 4 f22, zVi r1_4 k23 4 f23] → va_S A s.heap H locs → lv_has ls 4 [(3, .int s_1.2), (2, .int s_1.1), (0, .ref h0), (1, .ref h1)] → W p l e (headSpec wsX1_searchAll ({ frames := 4, cells := 5, slots := 18432, locals := 125 })).room s m ([.ref h0, .ref h1] : List Value).toArray below meth c H locs 0 0 Q (F0 m 4 ls []) := by
    intro n
    induction n with
    | zero => exact fun _ _ _ _ hfn => (zl_0 hfn).elim
    | succ n ih_1 =>
      intro s_1 H locs ls hfn hP hD hS hl
      have hfn := zl_s ebd_1 hfn
      refine lv_iload_n hx hb dX1_searchAll_4 rfl (lv_at hl 0 rfl) ?_
      refine lv_aload_n hx hb dX1_searchAll_5 rfl (lv_at hl 3 rfl) ?_
      refine va_get (D := (dC, dI)) (ci := 9) (v := .ref r1_7) (C := RX9) (T := TX9) (N := 9) hx hb hts zn_X1_searchAll_X9 hown hK hP 1 rfl rfl 7 (of_decide_eq_true rfl) (hts (.fieldLink RX1 59 "ShortEnough$Task" "groups" "LShortEnough$Groups;") zw_X1_searchAll_165) (fun _ h9 => h9) rfl dX1_searchAll_6 ?_
      refine va_get (D := (dC, dI)) (ci := 2) (v := .int v2_1) (C := RX2) (T := TX2) (N := 6) hx hb hts zn_X1_searchAll_X2 hown hK hP 2 rfl rfl 1 (of_decide_eq_true rfl) (hts (.fieldLink RX1 63 "ShortEnough$Groups" "free" "I") zw_X1_searchAll_167) (fun _ h9 => h9) rfl dX1_searchAll_9 ?_
      obtain ⟨j_2, ej_2, hfn⟩ := zj_g hfn
      have jp_2 : ∀ (s_2 : Unit) (H : Heap) (locs : List Loc) (ls : Array Slot), j_2 s_2 = some o → va_P (dC, dI) vwCl [zV1 h0 r0_0 r0_1 v0_2 v0_3 r0_4 r0_5 v0_6 v0_7 v0_8 v0_9 v0_10 r0_11 r0_12 r0_13, zV9 h1 v1_0 r1_1 r1_2 r1_3 r1_4 v1_5 r1_6 r1_7 r1_8, zV2 r1_7 v2_0 v2_1 v2_2 r2_3 r2_4 r2_5, zV4 r1_6 v3_0 v3_1 r3_2 r3_3 r3_4 r3_5 r3_6 r3_7 r3_8 r3_9, zVi r3_5 k4 14 f4, zVi r0_4 k5 n5 f5, zVi r0_5 k6 n6 f6, zVi r0_12 k7 n7 f7, zVi r0_11 k8 n8 f8, zVi r0_13 k9 n9 f9, zVi r2_4 k10 14 f10, zVi r0_1 k11 14 f11, zV7 r0_0 r12_0 v12_1 v12_2, zVi r2_3 k13 14 f13, zVi r1_2 k14 4 f14, zVi r3_3 k15 14 f15, zVi r3_8 k16 28 f16, zVl r12_0 k17 14 f17, zVi r3_9 k18 28 f18, zV6 r1_8 r19_0 r19_1 r19_2, zVl r19_0 k20 14 f20, zVl r19_1 k21 14 f21, zVi r1_3 k22 4 f22, zVi r1_4 k23 4 f23] H → va_D A [zV1 h0 r0_0 r0_1 v0_2 v0_3 r0_4 r0_5 v0_6 v0_7 v0_8 v0_9 v0_10 r0_11 r0_12 r0_13, zV9 h1 v1_0 r1_1 r1_2 r1_3 r1_4 v1_5 r1_6 r1_7 r1_8, zV2 r1_7 v2_0 v2_1 v2_2 r2_3 r2_4 r2_5, zV4 r1_6 v3_0 v3_1 r3_2 r3_3 r3_4 r3_5 r3_6 r3_7 r3_8 r3_9, zVi r3_5 k4 14 f4, zVi r0_4 k5 n5 f5, zVi r0_5 k6 n6 f6, zVi r0_12 k7 n7 f7, zVi r0_11 k8 n8 f8, zVi r0_13 k9 n9 f9, zVi r2_4 k10 14 f10, zVi r0_1 k11 14 f11, zV7 r0_0 r12_0 v12_1 v12_2, zVi r2_3 k13 14 f13, zVi r1_2 k14 4 f14, zVi r3_3 k15 14 f15, zVi r3_8 k16 28 f16, zVl r12_0 k17 14 f17, zVi r3_9 k18 28 f18, zV6 r1_8 r19_0 r19_1 r19_2, zVl r19_0 k20 14 f20, zVl r19_1 k21 14 f21, zVi r1_3 k22 4 f22, zVi r1_4 k23 4 f23] → va_S A s.heap H locs → lv_has ls 4 [(2, .int s_1.1), (0, .ref h0), (1, .ref h1)] → W p l e (headSpec wsX1_searchAll ({ frames := 4, cells := 5, slots := 18432, locals := 125 })).room s m ([.ref h0, .ref h1] : List Value).toArray below meth c H locs 0 0 Q (F0 m 33 ls []) := by
        intro s_2 H locs ls hfn hP hD hS hl
        have hfn := zj_s ej_2 hfn
        refine lv_aload_n hx hb dX1_searchAll_33 rfl (lv_at hl 1 rfl) ?_
        refine lv_aload_n hx hb dX1_searchAll_34 rfl (lv_at hl 2 rfl) ?_
        refine va_get (D := (dC, dI)) (ci := 9) (v := .ref r1_6) (C := RX9) (T := TX9) (N := 9) hx hb hts zn_X1_searchAll_X9 hown hK hP 1 rfl rfl 6 (of_decide_eq_true rfl) (hts (.fieldLink RX1 48 "ShortEnough$Task" "numbers" "LShortEnough$Numbers;") zw_X1_searchAll_169) (fun _ h9 => h9) rfl dX1_searchAll_35 ?_
        refine lv_aload_n hx hb dX1_searchAll_38 rfl (lv_at hl 2 rfl) ?_
        refine va_get (D := (dC, dI)) (ci := 9) (v := .ref r1_6) (C := RX9) (T := TX9) (N := 9) hx hb hts zn_X1_searchAll_X9 hown hK hP 1 rfl rfl 6 (of_decide_eq_true rfl) (hts (.fieldLink RX1 48 "ShortEnough$Task" "numbers" "LShortEnough$Numbers;") zw_X1_searchAll_169) (fun _ h9 => h9) rfl dX1_searchAll_39 ?_
        refine va_get (D := (dC, dI)) (ci := 4) (v := .int v3_0) (C := RX4) (T := TX4) (N := 10) hx hb hts zn_X1_searchAll_X4 hown hK hP 3 rfl rfl 0 (of_decide_eq_true rfl) (hts (.fieldLink RX1 54 "ShortEnough$Numbers" "count" "I") zw_X1_searchAll_171) (fun _ h9 => h9) rfl dX1_searchAll_42 ?_
        obtain ⟨o_3, hqo_3, hfn⟩ := zb_s hfn
        refine zcVi (ci := 4) (rest := [.ref h0]) (pc' := 48) (ws' := [zV1 h0 r0_0 r0_1 v0_2 v0_3 r0_4 r0_5 v0_6 v0_7 v0_8 v0_9 v0_10 r0_11 r0_12 r0_13, zV9 h1 v1_0 r1_1 r1_2 r1_3 r1_4 v1_5 r1_6 r1_7 r1_8, zV2 r1_7 v2_0 v2_1 v2_2 r2_3 r2_4 r2_5, zV4 r1_6 v3_0 v3_1 r3_2 r3_3 r3_4 r3_5 r3_6 r3_7 r3_8 r3_9, zVi r3_5 k4 14 f4, zVi r0_4 k5 n5 f5, zVi r0_5 k6 n6 f6, zVi r0_12 k7 n7 f7, zVi r0_11 k8 n8 f8, zVi r0_13 k9 n9 f9, zVi r2_4 k10 14 f10, zVi r0_1 k11 14 f11, zV7 r0_0 r12_0 v12_1 v12_2, zVi r2_3 k13 14 f13, zVi r1_2 k14 4 f14, zVi r3_3 k15 14 f15, zVi r3_8 k16 28 f16, zVl r12_0 k17 14 f17, zVi r3_9 k18 28 f18, zV6 r1_8 r19_0 r19_1 r19_2, zVl r19_0 k20 14 f20, zVl r19_1 k21 14 f21, zVi r1_3 k22 4 f22, zVi r1_4 k23 4 f23]) hP hK hD hS hA ⟨hx, hb, hml, hown, hts⟩ (zf_X4_countAnswers l dC dI r1_6 v3_0 v3_0 v3_1 r3_2 r3_3 r3_4 r3_5 r3_6 r3_7 r3_8 r3_9 k4 f4 o_3 hqo_3 H.size) (cwV 1 hts gX1_searchAll_X4_countAnswers rfl rfl rfl zhd_X4_countAnswers ⟨Nat.le_of_ble_eq_true rfl, Nat.le_of_ble_eq_true rfl⟩) [3, 4] rfl (of_decide_eq_true rfl) [0] rfl rfl rfl rfl hl.1 rfl (Nat.le_of_ble_eq_true rfl) dX1_searchAll_45 ⟨Nat.le_of_ble_eq_true rfl, Nat.le_of_ble_eq_true rfl⟩ [none, none, none, some 0, some 1] (of_decide_eq_true rfl) (of_decide_eq_true rfl) rfl rfl rfl (fun H locs hP hD hS => ?_)
        refine va_put (D := (dC, dI)) (ci := 1) (v := .int o_3) (ty := .int) (C := RX1) (T := TX1) (N := 14) hx hb hts zn_X1_searchAll_X1 tyX1 tyX1_ok nmX1 hown hK hP hD hS 0 rfl rfl 3 (of_decide_eq_true rfl) (hts (.fieldLink RX1 86 "ShortEnough$FullSearch" "answers" "I") zw_X1_searchAll_176) (fun _ h9 => h9) rfl (tyX1_ok 3 (of_decide_eq_true rfl)) rfl rfl (Nat.le_of_ble_eq_true rfl) dX1_searchAll_48 (fun H locs hP hD hS => ?_)
        have hP : va_P (dC, dI) vwCl [zV1 h0 r0_0 r0_1 v0_2 o_3 r0_4 r0_5 v0_6 v0_7 v0_8 v0_9 v0_10 r0_11 r0_12 r0_13, zV9 h1 v1_0 r1_1 r1_2 r1_3 r1_4 v1_5 r1_6 r1_7 r1_8, zV2 r1_7 v2_0 v2_1 v2_2 r2_3 r2_4 r2_5, zV4 r1_6 v3_0 v3_1 r3_2 r3_3 r3_4 r3_5 r3_6 r3_7 r3_8 r3_9, zVi r3_5 k4 14 f4, zVi r0_4 k5 n5 f5, zVi r0_5 k6 n6 f6, zVi r0_12 k7 n7 f7, zVi r0_11 k8 n8 f8, zVi r0_13 k9 n9 f9, zVi r2_4 k10 14 f10, zVi r0_1 k11 14 f11, zV7 r0_0 r12_0 v12_1 v12_2, zVi r2_3 k13 14 f13, zVi r1_2 k14 4 f14, zVi r3_3 k15 14 f15, zVi r3_8 k16 28 f16, zVl r12_0 k17 14 f17, zVi r3_9 k18 28 f18, zV6 r1_8 r19_0 r19_1 r19_2, zVl r19_0 k20 14 f20, zVl r19_1 k21 14 f21, zVi r1_3 k22 4 f22, zVi r1_4 k23 4 f23] H := hP
        have hD := zDW hD hP rfl
        refine lv_aload_n hx hb dX1_searchAll_51 rfl (lv_at hl 1 rfl) ?_
        refine lv_iload_n hx hb dX1_searchAll_52 rfl (lv_at hl 0 rfl) ?_
        obtain ⟨o_7, hqo_7, hfn⟩ := zb_s hfn
        have hC := zC hP [0, 5, 6, 7, 8, 9] (wc := [zV1 h0 r0_0 r0_1 v0_2 o_3 r0_4 r0_5 v0_6 v0_7 v0_8 v0_9 v0_10 r0_11 r0_12 r0_13, zVi r0_4 k5 n5 f5, zVi r0_5 k6 n6 f6, zVi r0_12 k7 n7 f7, zVi r0_11 k8 n8 f8, zVi r0_13 k9 n9 f9]) rfl
        have hPc := hP.sub [0, 5, 6, 7, 8, 9] (zfm hC)
        have hDc := hD.sub [0, 5, 6, 7, 8, 9] (of_decide_eq_true rfl) hC
        have hKc := hK.sub (tys' := [(k5, .int), (k6, .int), (k7, .int), (k8, .int), (k9, .int)]) [1, 2, 3, 4, 5] rfl
        have hFc := va_free hD hS hA [0, 5, 6, 7, 8, 9] hC
        refine va_callv (va_runV (As := [.int s_1.1]) (rest := []) ⟨hx, hb, hml, hown, hts⟩ (zf_X1_makeRoom l dC dI h0 s_1.1 r0_0 r0_1 v0_2 o_3 r0_4 r0_5 v0_6 v0_7 v0_8 v0_9 v0_10 r0_11 r0_12 r0_13 k5 n5 f5 k6 n6 f6 k7 n7 f7 k8 n8 f8 k9 n9 f9 o_7 hqo_7 H.size) (cwV 1 hts gX1_searchAll_X1_makeRoom rfl rfl rfl zhd_X1_makeRoom ⟨Nat.le_of_ble_eq_true rfl, Nat.le_of_ble_eq_true rfl⟩) ⟨fun a U g mk q => by obtain ⟨q0, q1, qP, qK, qD⟩ := q; exact ⟨q0, q1, qP, va_K.moved (u := U) (U := U.calling g mk a) (Vm.Alike.refl U.vm) qK, qD⟩, zrecv hKc hPc (ci := 1) (q0 := 0) rfl rfl, fun U hU hW => ⟨rfl, by rw [hU], by rw [hU]; exact hPc, va_K.moved hW.alike hKc, hDc.weaken (fun _ _ _ _ => trivial)⟩⟩ rfl rfl hl.1 rfl (lv_room (Nat.le_of_ble_eq_true rfl)) dX1_searchAll_53 ⟨Nat.le_of_ble_eq_true rfl, Nat.le_of_ble_eq_true rfl⟩) hS (fun q _ h => hFc q h) hFc (fun u_9 t H1 locs ht hvm hw_10 hB hz1 hk1 hS => ?_)
        obtain ⟨hP1, hK1, hD1⟩ := hB
        rw [ht] at hP1
        have hK1 := va_K.moved hvm.symm hK1
        obtain ⟨hP, hD⟩ := zjn (ws' := [zV1 h0 r0_0 r0_1 v0_2 o_3 (u_9 0) (u_9 2) v0_6 v0_7 v0_8 v0_9 v0_10 (u_9 6) (u_9 4) (u_9 8), zV9 h1 v1_0 r1_1 r1_2 r1_3 r1_4 v1_5 r1_6 r1_7 r1_8, zV2 r1_7 v2_0 v2_1 v2_2 r2_3 r2_4 r2_5, zV4 r1_6 v3_0 v3_1 r3_2 r3_3 r3_4 r3_5 r3_6 r3_7 r3_8 r3_9, zVi r3_5 k4 14 f4, zVi (u_9 0) (u_9 1) o_7.2.1 o_7.1, zVi (u_9 2) (u_9 3) o_7.2.2.2.1 o_7.2.2.1, zVi (u_9 4) (u_9 5) o_7.2.2.2.2.2.1 o_7.2.2.2.2.1, zVi (u_9 6) (u_9 7) o_7.2.2.2.2.2.2.2.1 o_7.2.2.2.2.2.2.1, zVi (u_9 8) (u_9 9) o_7.2.2.2.2.2.2.2.2.2 o_7.2.2.2.2.2.2.2.2.1, zVi r2_4 k10 14 f10, zVi r0_1 k11 14 f11, zV7 r0_0 r12_0 v12_1 v12_2, zVi r2_3 k13 14 f13, zVi r1_2 k14 4 f14, zVi r3_3 k15 14 f15, zVi r3_8 k16 28 f16, zVl r12_0 k17 14 f17, zVi r3_9 k18 28 f18, zV6 r1_8 r19_0 r19_1 r19_2, zVl r19_0 k20 14 f20, zVl r19_1 k21 14 f21, zVi r1_3 k22 4 f22, zVi r1_4 k23 4 f23]) hP hD [0, 5, 6, 7, 8, 9] hC hk1 hFc hP1 hD1 [some 0, none, none, none, none, some 1, some 2, some 3, some 4, some 5] (of_decide_eq_true rfl) (of_decide_eq_true rfl) rfl rfl
        have hK := hK.app hK1
        generalize H1 = H at hP hS ⊢
        have hK : va_K (dC, dI) vwCl [(k4, .int), (k5, .int), (k6, .int), (k7, .int), (k8, .int), (k9, .int), (k10, .int), (k11, .int), (k13, .int), (k14, .int), (k15, .int), (k16, .int), (k17, .long), (k18, .int), (k20, .long), (k21, .long), (k22, .int), (k23, .int), ((u_9 1), .int), ((u_9 3), .int), ((u_9 5), .int), ((u_9 7), .int), ((u_9 9), .int)] s := hK
        refine lv_iconst (v := 0) hx hb dX1_searchAll_56 zci_0 ?_
        refine lv_istore_n (lv' := [(3, .int 0), (2, .int s_1.1), (0, .ref h0), (1, .ref h1)]) hx hb dX1_searchAll_57 rfl hl (of_decide_eq_true rfl) rfl (fun ls hl => ?_)
        obtain ⟨bd_11, ebd_11, hfn⟩ := zl_g hfn
        have lp_11 : ∀ (n : Nat) (s_11 : Int32 × Int32 × Int32 × Int32 × Int32 × Int32 × (Nat → Int32) × (Nat → Int32) × (Nat → Int32) × (Nat → Int64)) (H : Heap) (locs : List Loc) (ls : Array Slot), zl bd_11 n s_11 = some o → va_P (dC, dI) vwCl [zV1 h0 r0_0 r0_1 v0_2 o_3 (u_9 0) (u_9 2) s_11.2.1 s_11.2.2.1 s_11.2.2.2.1 v0_9 v0_10 (u_9 6) (u_9 4) (u_9 8), zV9 h1 v1_0 r1_1 r1_2 r1_3 r1_4 v1_5 r1_6 r1_7 r1_8, zV2 r1_7 v2_0 v2_1 v2_2 r2_3 r2_4 r2_5, zV4 r1_6 v3_0 v3_1 r3_2 r3_3 r3_4 r3_5 r3_6 r3_7 r3_8 r3_9, zVi r3_5 k4 14 f4, zVi (u_9 0) (u_9 1) o_7.2.1 s_11.2.2.2.2.2.2.1, zVi (u_9 2) (u_9 3) o_7.2.2.2.1 s_11.2.2.2.2.2.2.2.1, zVi (u_9 4) (u_9 5) o_7.2.2.2.2.2.1 o_7.2.2.2.2.1, zVi (u_9 6) (u_9 7) o_7.2.2.2.2.2.2.2.1 o_7.2.2.2.2.2.2.1, zVi (u_9 8) (u_9 9) o_7.2.2.2.2.2.2.2.2.2 o_7.2.2.2.2.2.2.2.2.1, zVi r2_4 k10 14 f10, zVi r0_1 k11 14 s_11.2.2.2.2.2.2.2.2.1, zV7 r0_0 r12_0 s_11.2.2.2.2.1 s_11.2.2.2.2.2.1, zVi r2_3 k13 14 f13, zVi r1_2 k14 4 f14, zVi r3_3 k15 14 f15, zVi r3_8 k16 28 f16, zVl r12_0 k17 14 s_11.2.2.2.2.2.2.2.2.2, zVi r3_9 k18 28 f18, zV6 r1_8 r19_0 r19_1 r19_2, zVl r19_0 k20 14 f20, zVl r19_1 k21 14 f21, zVi r1_3 k22 4 f22, zVi r1_4 k23 4 f23] H → va_D A [zV1 h0 r0_0 r0_1 v0_2 o_3 (u_9 0) (u_9 2) s_11.2.1 s_11.2.2.1 s_11.2.2.2.1 v0_9 v0_10 (u_9 6) (u_9 4) (u_9 8), zV9 h1 v1_0 r1_1 r1_2 r1_3 r1_4 v1_5 r1_6 r1_7 r1_8, zV2 r1_7 v2_0 v2_1 v2_2 r2_3 r2_4 r2_5, zV4 r1_6 v3_0 v3_1 r3_2 r3_3 r3_4 r3_5 r3_6 r3_7 r3_8 r3_9, zVi r3_5 k4 14 f4, zVi (u_9 0) (u_9 1) o_7.2.1 s_11.2.2.2.2.2.2.1, zVi (u_9 2) (u_9 3) o_7.2.2.2.1 s_11.2.2.2.2.2.2.2.1, zVi (u_9 4) (u_9 5) o_7.2.2.2.2.2.1 o_7.2.2.2.2.1, zVi (u_9 6) (u_9 7) o_7.2.2.2.2.2.2.2.1 o_7.2.2.2.2.2.2.1, zVi (u_9 8) (u_9 9) o_7.2.2.2.2.2.2.2.2.2 o_7.2.2.2.2.2.2.2.2.1, zVi r2_4 k10 14 f10, zVi r0_1 k11 14 s_11.2.2.2.2.2.2.2.2.1, zV7 r0_0 r12_0 s_11.2.2.2.2.1 s_11.2.2.2.2.2.1, zVi r2_3 k13 14 f13, zVi r1_2 k14 4 f14, zVi r3_3 k15 14 f15, zVi r3_8 k16 28 f16, zVl r12_0 k17 14 s_11.2.2.2.2.2.2.2.2.2, zVi r3_9 k18 28 f18, zV6 r1_8 r19_0 r19_1 r19_2, zVl r19_0 k20 14 f20, zVl r19_1 k21 14 f21, zVi r1_3 k22 4 f22, zVi r1_4 k23 4 f23] → va_S A s.heap H locs → lv_has ls 4 [(3, .int s_11.1), (2, .int s_1.1), (0, .ref h0), (1, .ref h1)] → W p l e (headSpec wsX1_searchAll ({ frames := 4, cells := 5, slots := 18432, locals := 125 })).room s m ([.ref h0, .ref h1] : List Value).toArray below meth c H locs 5 18432 Q (F0 m 58 ls []) := by
          intro n
          induction n with
          | zero => exact fun _ _ _ _ hfn => (zl_0 hfn).elim
          | succ n ih_11 =>
            intro s_11 H locs ls hfn hP hD hS hl
            have hfn := zl_s ebd_11 hfn
            refine lv_iload_n hx hb dX1_searchAll_58 rfl (lv_at hl 0 rfl) ?_
            refine lv_iload_n hx hb dX1_searchAll_59 rfl (lv_at hl 1 rfl) ?_
            refine lv_icmp_ge (tgt := 111) hx hb dX1_searchAll_60 (of_decide_eq_true rfl) (fun c_12 => ?_) (fun c_12 => ?_)
            · have hfn := (if_pos c_12).symm.trans hfn
              have ho := Option.some.inj hfn
              subst ho
              obtain ⟨hP9, hD9⟩ := zPD (ws' := [zV1 h0 r0_0 r0_1 v0_2 o_3 (u_9 0) (u_9 2) s_11.2.1 s_11.2.2.1 s_11.2.2.2.1 v0_9 v0_10 (u_9 6) (u_9 4) (u_9 8), zV9 h1 v1_0 r1_1 r1_2 r1_3 r1_4 v1_5 r1_6 r1_7 r1_8, zV2 r1_7 v2_0 v2_1 v2_2 r2_3 r2_4 r2_5, zV4 r1_6 v3_0 v3_1 r3_2 r3_3 r3_4 r3_5 r3_6 r3_7 r3_8 r3_9, zVi r3_5 k4 14 f4, zVi (u_9 0) (u_9 1) o_7.2.1 s_11.2.2.2.2.2.2.1, zVi (u_9 2) (u_9 3) o_7.2.2.2.1 s_11.2.2.2.2.2.2.2.1, zVi (u_9 4) (u_9 5) o_7.2.2.2.2.2.1 o_7.2.2.2.2.1, zVi (u_9 6) (u_9 7) o_7.2.2.2.2.2.2.2.1 o_7.2.2.2.2.2.2.1, zVi (u_9 8) (u_9 9) o_7.2.2.2.2.2.2.2.2.2 o_7.2.2.2.2.2.2.2.2.1, zVi r2_4 k10 14 f10, zVi r0_1 k11 14 s_11.2.2.2.2.2.2.2.2.1, zV7 r0_0 r12_0 s_11.2.2.2.2.1 s_11.2.2.2.2.2.1, zVi r2_3 k13 14 f13, zVi r1_2 k14 4 f14, zVi r3_3 k15 14 f15, zVi r3_8 k16 28 f16, zVl r12_0 k17 14 s_11.2.2.2.2.2.2.2.2.2, zVi r3_9 k18 28 f18, zV6 r1_8 r19_0 r19_1 r19_2, zVl r19_0 k20 14 f20, zVl r19_1 k21 14 f21, zVi r1_3 k22 4 f22, zVi r1_4 k23 4 f23]) hP hD [0, 1, 2, 3, 4, 5, 6, 7, 8, 9, 10, 11, 12, 13, 14, 15, 16, 17, 18, 19, 20, 21, 22, 23] (of_decide_eq_true rfl) rfl
              have hK9 := hK.sub (tys' := [(k4, .int), ((u_9 1), .int), ((u_9 3), .int), ((u_9 5), .int), ((u_9 7), .int), ((u_9 9), .int), (k10, .int), (k11, .int), (k13, .int), (k14, .int), (k15, .int), (k16, .int), (k17, .long), (k18, .int), (k20, .long), (k21, .long), (k22, .int), (k23, .int)]) [0, 18, 19, 20, 21, 22, 6, 7, 8, 9, 10, 11, 12, 13, 14, 15, 16, 17] rfl
              refine W.widen (k := 5) (n := 18432) (Nat.le_of_ble_eq_true rfl) (Nat.le_of_ble_eq_true rfl) ?_
              rw [← hQ]
              exact W.vret hx hb hr (fun t ht hW => ⟨⟨(fun k => ([(u_9 0), (u_9 1), (u_9 2), (u_9 3), (u_9 4), (u_9 5), (u_9 6), (u_9 7), (u_9 8), (u_9 9)] : List Nat).getD k 0), rfl, trivial, by rw [ht]; exact hP9, va_K.moved hW.alike hK9, hD9⟩, hS.F ht⟩) hS.2.2 dX1_searchAll_111
            have hfn := (if_neg c_12).symm.trans hfn
            refine lv_aload_n hx hb dX1_searchAll_63 rfl (lv_at hl 3 rfl) ?_
            refine lv_iload_n hx hb dX1_searchAll_64 rfl (lv_at hl 0 rfl) ?_
            refine lv_aload_n hx hb dX1_searchAll_65 rfl (lv_at hl 2 rfl) ?_
            refine va_get (D := (dC, dI)) (ci := 1) (v := .ref r0_1) (C := RX1) (T := TX1) (N := 14) hx hb hts zn_X1_searchAll_X1 hown hK hP 0 rfl rfl 1 (of_decide_eq_true rfl) (hts (.fieldLink RX1 18 "ShortEnough$FullSearch" "choice" "[I") zw_X1_searchAll_185) (fun _ h9 => h9) rfl dX1_searchAll_66 ?_
            obtain ⟨o_13, hqo_13, hfn⟩ := zb_s hfn
            refine zcSv (rest := []) (pc' := 72) (ws' := [zV1 h0 r0_0 r0_1 v0_2 o_3 (u_9 0) (u_9 2) s_11.2.1 s_11.2.2.1 s_11.2.2.2.1 v0_9 v0_10 (u_9 6) (u_9 4) (u_9 8), zV9 h1 v1_0 r1_1 r1_2 r1_3 r1_4 v1_5 r1_6 r1_7 r1_8, zV2 r1_7 v2_0 v2_1 v2_2 r2_3 r2_4 r2_5, zV4 r1_6 v3_0 v3_1 r3_2 r3_3 r3_4 r3_5 r3_6 r3_7 r3_8 r3_9, zVi r3_5 k4 14 f4, zVi (u_9 0) (u_9 1) o_7.2.1 s_11.2.2.2.2.2.2.1, zVi (u_9 2) (u_9 3) o_7.2.2.2.1 s_11.2.2.2.2.2.2.2.1, zVi (u_9 4) (u_9 5) o_7.2.2.2.2.2.1 o_7.2.2.2.2.1, zVi (u_9 6) (u_9 7) o_7.2.2.2.2.2.2.2.1 o_7.2.2.2.2.2.2.1, zVi (u_9 8) (u_9 9) o_7.2.2.2.2.2.2.2.2.2 o_7.2.2.2.2.2.2.2.2.1, zVi r2_4 k10 14 f10, zVi r0_1 k11 14 o_13, zV7 r0_0 r12_0 s_11.2.2.2.2.1 s_11.2.2.2.2.2.1, zVi r2_3 k13 14 f13, zVi r1_2 k14 4 f14, zVi r3_3 k15 14 f15, zVi r3_8 k16 28 f16, zVl r12_0 k17 14 s_11.2.2.2.2.2.2.2.2.2, zVi r3_9 k18 28 f18, zV6 r1_8 r19_0 r19_1 r19_2, zVl r19_0 k20 14 f20, zVl r19_1 k21 14 f21, zVi r1_3 k22 4 f22, zVi r1_4 k23 4 f23]) hP hK hD hS hA ⟨hx, hb, hml, hown, hts⟩ (zf_X1_unfold l dC dI h1 s_11.1 r0_1 v1_0 r1_1 r1_2 r1_3 r1_4 v1_5 r1_6 r1_7 r1_8 v2_0 v2_1 v2_2 r2_3 r2_4 r2_5 k10 f10 k11 s_11.2.2.2.2.2.2.2.2.1 o_13 hqo_13 H.size) (va_cwS 3 hts gX1_searchAll_X1_unfold rfl rfl rfl zhd_X1_unfold.2 ⟨Nat.le_of_ble_eq_true rfl, Nat.le_of_ble_eq_true rfl⟩) [1, 2, 10, 11] rfl (of_decide_eq_true rfl) [6, 7] rfl rfl hl.1 rfl (Nat.le_of_ble_eq_true rfl) dX1_searchAll_69 ⟨Nat.le_of_ble_eq_true rfl, Nat.le_of_ble_eq_true rfl⟩ [none, some 0, some 1, none, none, none, none, none, none, none, some 2, some 3] (of_decide_eq_true rfl) (of_decide_eq_true rfl) rfl rfl rfl (fun H locs hP hD hS => ?_)
            refine lv_aload_n hx hb dX1_searchAll_72 rfl (lv_at hl 2 rfl) ?_
            refine va_get (D := (dC, dI)) (ci := 1) (v := .ref r0_0) (C := RX1) (T := TX1) (N := 14) hx hb hts zn_X1_searchAll_X1 hown hK hP 0 rfl rfl 0 (of_decide_eq_true rfl) (hts (.fieldLink RX1 12 "ShortEnough$FullSearch" "reckoning" "LShortEnough$Reckoning;") zw_X1_searchAll_192) (fun _ h9 => h9) rfl dX1_searchAll_73 ?_
            refine lv_aload_n hx hb dX1_searchAll_76 rfl (lv_at hl 3 rfl) ?_
            refine lv_aload_n hx hb dX1_searchAll_77 rfl (lv_at hl 3 rfl) ?_
            refine va_get (D := (dC, dI)) (ci := 9) (v := .ref r1_8) (C := RX9) (T := TX9) (N := 9) hx hb hts zn_X1_searchAll_X9 hown hK hP 1 rfl rfl 8 (of_decide_eq_true rfl) (hts (.fieldLink RX1 97 "ShortEnough$Task" "ranges" "LShortEnough$Ranges;") zw_X1_searchAll_193) (fun _ h9 => h9) rfl dX1_searchAll_78 ?_
            refine lv_aload_n hx hb dX1_searchAll_81 rfl (lv_at hl 2 rfl) ?_
            refine va_get (D := (dC, dI)) (ci := 1) (v := .ref r0_1) (C := RX1) (T := TX1) (N := 14) hx hb hts zn_X1_searchAll_X1 hown hK hP 0 rfl rfl 1 (of_decide_eq_true rfl) (hts (.fieldLink RX1 18 "ShortEnough$FullSearch" "choice" "[I") zw_X1_searchAll_185) (fun _ h9 => h9) rfl dX1_searchAll_82 ?_
            obtain ⟨o_17, hqo_17, hfn⟩ := zb_s hfn
            refine zcNVb (ci := 7) (rest := []) (pc' := 88) (ws' := [zV1 h0 r0_0 r0_1 v0_2 o_3 (u_9 0) (u_9 2) s_11.2.1 s_11.2.2.1 s_11.2.2.2.1 v0_9 v0_10 (u_9 6) (u_9 4) (u_9 8), zV9 h1 v1_0 r1_1 r1_2 r1_3 r1_4 v1_5 r1_6 r1_7 r1_8, zV2 r1_7 v2_0 v2_1 v2_2 r2_3 r2_4 r2_5, zV4 r1_6 v3_0 v3_1 r3_2 r3_3 r3_4 r3_5 r3_6 r3_7 r3_8 r3_9, zVi r3_5 k4 14 f4, zVi (u_9 0) (u_9 1) o_7.2.1 s_11.2.2.2.2.2.2.1, zVi (u_9 2) (u_9 3) o_7.2.2.2.1 s_11.2.2.2.2.2.2.2.1, zVi (u_9 4) (u_9 5) o_7.2.2.2.2.2.1 o_7.2.2.2.2.1, zVi (u_9 6) (u_9 7) o_7.2.2.2.2.2.2.2.1 o_7.2.2.2.2.2.2.1, zVi (u_9 8) (u_9 9) o_7.2.2.2.2.2.2.2.2.2 o_7.2.2.2.2.2.2.2.2.1, zVi r2_4 k10 14 f10, zVi r0_1 k11 14 o_13, zV7 r0_0 r12_0 o_17.2.1 o_17.2.2.1, zVi r2_3 k13 14 f13, zVi r1_2 k14 4 f14, zVi r3_3 k15 14 f15, zVi r3_8 k16 28 f16, zVl r12_0 k17 14 o_17.2.2.2, zVi r3_9 k18 28 f18, zV6 r1_8 r19_0 r19_1 r19_2, zVl r19_0 k20 14 f20, zVl r19_1 k21 14 f21, zVi r1_3 k22 4 f22, zVi r1_4 k23 4 f23]) hP hK hD hS hA ⟨hx, hb, hml, hown, hts⟩ (zf_X7_reckon l dC dI r0_0 h1 r1_8 r0_1 r12_0 s_11.2.2.2.2.1 s_11.2.2.2.2.2.1 v1_0 r1_1 r1_2 r1_3 r1_4 v1_5 r1_6 r1_7 r1_8 v3_0 v3_1 r3_2 r3_3 r3_4 r3_5 r3_6 r3_7 r3_8 r3_9 v2_0 v2_1 v2_2 r2_3 r2_4 r2_5 k13 f13 k11 o_13 k14 f14 k15 f15 k16 f16 k17 s_11.2.2.2.2.2.2.2.2.2 k18 f18 r19_0 r19_1 r19_2 k20 f20 k21 f21 k22 f22 k4 f4 o_17 hqo_17 H.size) ⟨hn0, trivial⟩ (cwV 3 hts gX1_searchAll_X7_reckon rfl rfl rfl zhd_X7_reckon ⟨Nat.le_of_ble_eq_true rfl, Nat.le_of_ble_eq_true rfl⟩) [12, 1, 3, 2, 13, 11, 14, 15, 16, 17, 18, 19, 20, 21, 22, 4] rfl (of_decide_eq_true rfl) [8, 7, 9, 10, 11, 12, 13, 14, 15, 16, 0] rfl rfl rfl rfl hl.1 rfl (Nat.le_of_ble_eq_true rfl) dX1_searchAll_85 ⟨Nat.le_of_ble_eq_true rfl, Nat.le_of_ble_eq_true rfl⟩ [none, some 1, some 3, some 2, some 15, none, none, none, none, none, none, some 5, some 0, some 4, some 6, some 7, some 8, some 9, some 10, some 11, some 12, some 13, some 14] (of_decide_eq_true rfl) (of_decide_eq_true rfl) rfl rfl rfl (fun H locs hw_20n hP hD hS => ?_)
            refine lv_if_eq (tgt := 105) hx hb dX1_searchAll_88 (of_decide_eq_true rfl) (fun c_21 => ?_) (fun c_21 => ?_)
            · have hfn := (if_pos c_21).symm.trans hfn
              refine lv_iinc (v := (s_11.1 + 1)) (lv' := [(3, .int (s_11.1 + 1)), (2, .int s_1.1), (0, .ref h0), (1, .ref h1)]) hx hb dX1_searchAll_105 hl (k := 0) rfl rfl (of_decide_eq_true rfl) rfl (fun ls hl => ?_)
              refine lv_goto (tgt := 58) hx hb dX1_searchAll_108 (of_decide_eq_true rfl) ?_
              exact ih_11 ((s_11.1 + 1), s_11.2.1, s_11.2.2.1, s_11.2.2.2.1, o_17.2.1, o_17.2.2.1, s_11.2.2.2.2.2.2.1, s_11.2.2.2.2.2.2.2.1, o_13, o_17.2.2.2) H locs ls hfn hP hD hS (lv_sub hl [0, 1, 2, 3] rfl)
            have hfn := (if_neg c_21).symm.trans hfn
            refine lv_aload_n hx hb dX1_searchAll_91 rfl (lv_at hl 2 rfl) ?_
            refine lv_aload_n hx hb dX1_searchAll_92 rfl (lv_at hl 3 rfl) ?_
            refine lv_iload_n hx hb dX1_searchAll_93 rfl (lv_at hl 0 rfl) ?_
            refine lv_aload_n hx hb dX1_searchAll_94 rfl (lv_at hl 3 rfl) ?_
            refine lv_aload_n hx hb dX1_searchAll_95 rfl (lv_at hl 2 rfl) ?_
            refine va_get (D := (dC, dI)) (ci := 1) (v := .ref r0_1) (C := RX1) (T := TX1) (N := 14) hx hb hts zn_X1_searchAll_X1 hown hK hP 0 rfl rfl 1 (of_decide_eq_true rfl) (hts (.fieldLink RX1 18 "ShortEnough$FullSearch" "choice" "[I") zw_X1_searchAll_185) (fun _ h9 => h9) rfl dX1_searchAll_96 ?_
            obtain ⟨o_22, hqo_22, hfn⟩ := zb_s hfn
            refine zcVi (ci := 9) (rest := [.int s_11.1, .ref h1, .ref h0]) (pc' := 102) (ws' := [zV1 h0 r0_0 r0_1 v0_2 o_3 (u_9 0) (u_9 2) s_11.2.1 s_11.2.2.1 s_11.2.2.2.1 v0_9 v0_10 (u_9 6) (u_9 4) (u_9 8), zV9 h1 v1_0 r1_1 r1_2 r1_3 r1_4 v1_5 r1_6 r1_7 r1_8, zV2 r1_7 v2_0 v2_1 v2_2 r2_3 r2_4 r2_5, zV4 r1_6 v3_0 v3_1 r3_2 r3_3 r3_4 r3_5 r3_6 r3_7 r3_8 r3_9, zVi r3_5 k4 14 f4, zVi (u_9 0) (u_9 1) o_7.2.1 s_11.2.2.2.2.2.2.1, zVi (u_9 2) (u_9 3) o_7.2.2.2.1 s_11.2.2.2.2.2.2.2.1, zVi (u_9 4) (u_9 5) o_7.2.2.2.2.2.1 o_7.2.2.2.2.1, zVi (u_9 6) (u_9 7) o_7.2.2.2.2.2.2.2.1 o_7.2.2.2.2.2.2.1, zVi (u_9 8) (u_9 9) o_7.2.2.2.2.2.2.2.2.2 o_7.2.2.2.2.2.2.2.2.1, zVi r2_4 k10 14 f10, zVi r0_1 k11 14 o_13, zV7 r0_0 r12_0 o_17.2.1 o_17.2.2.1, zVi r2_3 k13 14 f13, zVi r1_2 k14 4 f14, zVi r3_3 k15 14 f15, zVi r3_8 k16 28 f16, zVl r12_0 k17 14 o_17.2.2.2, zVi r3_9 k18 28 f18, zV6 r1_8 r19_0 r19_1 r19_2, zVl r19_0 k20 14 f20, zVl r19_1 k21 14 f21, zVi r1_3 k22 4 f22, zVi r1_4 k23 4 f23]) hP hK hD hS hA ⟨hx, hb, hml, hown, hts⟩ (zf_X9_priceOf l dC dI h1 r0_1 v1_0 r1_1 r1_2 r1_3 r1_4 v1_5 r1_6 r1_7 r1_8 v3_0 v3_1 r3_2 r3_3 r3_4 r3_5 r3_6 r3_7 r3_8 r3_9 k16 f16 v2_0 v2_1 v2_2 r2_3 r2_4 r2_5 k13 f13 k11 o_13 k23 f23 o_22 hqo_22 H.size) (cwV 1 hts gX1_searchAll_X9_priceOf rfl rfl rfl zhd_X9_priceOf ⟨Nat.le_of_ble_eq_true rfl, Nat.le_of_ble_eq_true rfl⟩) [1, 3, 16, 2, 13, 11, 23] rfl (of_decide_eq_true rfl) [11, 8, 7, 17] rfl rfl rfl rfl hl.1 rfl (Nat.le_of_ble_eq_true rfl) dX1_searchAll_99 ⟨Nat.le_of_ble_eq_true rfl, Nat.le_of_ble_eq_true rfl⟩ [none, some 0, some 3, some 1, none, none, none, none, none, none, none, some 5, none, some 4, none, none, some 2, none, none, none, none, none, none, some 6] (of_decide_eq_true rfl) (of_decide_eq_true rfl) rfl rfl rfl (fun H locs hP hD hS => ?_)
            obtain ⟨o_26, hqo_26, hfn⟩ := zb_s hfn
            refine zcVv (ci := 1) (rest := []) (pc' := 105) (ws' := [zV1 h0 r0_0 r0_1 v0_2 o_3 (u_9 0) (u_9 2) o_26.1 o_26.2.1 o_26.2.2.1 v0_9 v0_10 (u_9 6) (u_9 4) (u_9 8), zV9 h1 v1_0 r1_1 r1_2 r1_3 r1_4 v1_5 r1_6 r1_7 r1_8, zV2 r1_7 v2_0 v2_1 v2_2 r2_3 r2_4 r2_5, zV4 r1_6 v3_0 v3_1 r3_2 r3_3 r3_4 r3_5 r3_6 r3_7 r3_8 r3_9, zVi r3_5 k4 14 f4, zVi (u_9 0) (u_9 1) o_7.2.1 o_26.2.2.2.1, zVi (u_9 2) (u_9 3) o_7.2.2.2.1 o_26.2.2.2.2, zVi (u_9 4) (u_9 5) o_7.2.2.2.2.2.1 o_7.2.2.2.2.1, zVi (u_9 6) (u_9 7) o_7.2.2.2.2.2.2.2.1 o_7.2.2.2.2.2.2.1, zVi (u_9 8) (u_9 9) o_7.2.2.2.2.2.2.2.2.2 o_7.2.2.2.2.2.2.2.2.1, zVi r2_4 k10 14 f10, zVi r0_1 k11 14 o_13, zV7 r0_0 r12_0 o_17.2.1 o_17.2.2.1, zVi r2_3 k13 14 f13, zVi r1_2 k14 4 f14, zVi r3_3 k15 14 f15, zVi r3_8 k16 28 f16, zVl r12_0 k17 14 o_17.2.2.2, zVi r3_9 k18 28 f18, zV6 r1_8 r19_0 r19_1 r19_2, zVl r19_0 k20 14 f20, zVl r19_1 k21 14 f21, zVi r1_3 k22 4 f22, zVi r1_4 k23 4 f23]) hP hK hD hS hA ⟨hx, hb, hml, hown, hts⟩ (zf_X1_keep l dC dI h0 h1 s_11.1 o_22 r0_0 r0_1 v0_2 o_3 (u_9 0) (u_9 2) s_11.2.1 s_11.2.2.1 s_11.2.2.2.1 v0_9 v0_10 (u_9 6) (u_9 4) (u_9 8) (u_9 1) o_7.2.1 s_11.2.2.2.2.2.2.1 v1_0 r1_1 r1_2 r1_3 r1_4 v1_5 r1_6 r1_7 r1_8 v3_0 v3_1 r3_2 r3_3 r3_4 r3_5 r3_6 r3_7 r3_8 r3_9 k4 f4 (u_9 3) o_7.2.2.2.1 s_11.2.2.2.2.2.2.2.1 r12_0 o_17.2.1 o_17.2.2.1 k17 o_17.2.2.2 o_26 hqo_26 H.size) (cwV 3 hts gX1_searchAll_X1_keep rfl rfl rfl zhd_X1_keep ⟨Nat.le_of_ble_eq_true rfl, Nat.le_of_ble_eq_true rfl⟩) [0, 5, 1, 3, 4, 6, 12, 17] rfl (of_decide_eq_true rfl) [18, 0, 19, 12] rfl rfl rfl rfl hl.1 rfl (Nat.le_of_ble_eq_true rfl) dX1_searchAll_102 ⟨Nat.le_of_ble_eq_true rfl, Nat.le_of_ble_eq_true rfl⟩ [some 0, some 2, none, some 3, some 4, some 1, some 5, none, none, none, none, none, some 6, none, none, none, none, some 7] (of_decide_eq_true rfl) (of_decide_eq_true rfl) rfl rfl rfl (fun H locs hP hD hS => ?_)
            refine lv_iinc (v := (s_11.1 + 1)) (lv' := [(3, .int (s_11.1 + 1)), (2, .int s_1.1), (0, .ref h0), (1, .ref h1)]) hx hb dX1_searchAll_105 hl (k := 0) rfl rfl (of_decide_eq_true rfl) rfl (fun ls hl => ?_)
            refine lv_goto (tgt := 58) hx hb dX1_searchAll_108 (of_decide_eq_true rfl) ?_
            exact ih_11 ((s_11.1 + 1), o_26.1, o_26.2.1, o_26.2.2.1, o_17.2.1, o_17.2.2.1, o_26.2.2.2.1, o_26.2.2.2.2, o_13, o_17.2.2.2) H locs ls hfn hP hD hS (lv_sub hl [0, 1, 2, 3] rfl)
        exact lp_11 _ (0, v0_6, v0_7, v0_8, v12_1, v12_2, o_7.1, o_7.2.2.1, f11, f17) H locs ls hfn hP hD hS (lv_sub hl [0, 1, 2, 3] rfl)
      refine lv_icmp_ge (tgt := 33) hx hb dX1_searchAll_12 (of_decide_eq_true rfl) (fun c_30 => ?_) (fun c_30 => ?_)
      · have hfn := (if_pos c_30).symm.trans hfn
        exact jp_2 () H locs ls hfn hP hD hS (lv_sub hl [1, 2, 3] rfl)
      have hfn := (if_neg c_30).symm.trans hfn
      refine lv_iload_n hx hb dX1_searchAll_15 rfl (lv_at hl 0 rfl) ?_
      refine lv_iconst (v := 5) hx hb dX1_searchAll_16 zci_5 ?_
      refine lv_icmp_ge (tgt := 33) hx hb dX1_searchAll_17 (of_decide_eq_true rfl) (fun c_31 => ?_) (fun c_31 => ?_)
      · have hfn := (if_pos c_31).symm.trans hfn
        exact jp_2 () H locs ls hfn hP hD hS (lv_sub hl [1, 2, 3] rfl)
      have hfn := (if_neg c_31).symm.trans hfn
      refine lv_iload_n hx hb dX1_searchAll_20 rfl (lv_at hl 1 rfl) ?_
      refine lv_aload_n hx hb dX1_searchAll_21 rfl (lv_at hl 3 rfl) ?_
      refine va_get (D := (dC, dI)) (ci := 9) (v := .int v1_0) (C := RX9) (T := TX9) (N := 9) hx hb hts zn_X1_searchAll_X9 hown hK hP 1 rfl rfl 0 (of_decide_eq_true rfl) (hts (.fieldLink RX1 79 "ShortEnough$Task" "formats" "I") zw_X1_searchAll_168) (fun _ h9 => h9) rfl dX1_searchAll_22 ?_
      refine lv_imul hx hb dX1_searchAll_25 ?_
      refine lv_istore_n (lv' := [(2, .int (s_1.1 * v1_0)), (3, .int s_1.2), (0, .ref h0), (1, .ref h1)]) hx hb dX1_searchAll_26 rfl hl (of_decide_eq_true rfl) rfl (fun ls hl => ?_)
      refine lv_iinc (v := (s_1.2 + 1)) (lv' := [(3, .int (s_1.2 + 1)), (2, .int (s_1.1 * v1_0)), (0, .ref h0), (1, .ref h1)]) hx hb dX1_searchAll_27 hl (k := 1) rfl rfl (of_decide_eq_true rfl) rfl (fun ls hl => ?_)
      refine lv_goto (tgt := 4) hx hb dX1_searchAll_30 (of_decide_eq_true rfl) ?_
      exact ih_1 ((s_1.1 * v1_0), (s_1.2 + 1)) H locs ls hfn hP hD hS (lv_sub hl [0, 1, 2, 3] rfl)
  exact lp_1 _ (1, 0) s.heap [] ls hfn hP hD hS (lv_sub hl [0, 1, 2, 3] rfl)
theorem zn_X1_search_X9 : ∀ w ∈ wsX90, w ∈ wsX1_search := fun _ h => List.mem_cons_of_mem _ (List.mem_append_left _ (List.mem_append_left _ (List.mem_append_left _ (List.mem_append_left _ (List.mem_append_left _ (List.mem_append_right _ h))))))
theorem zw_X1_search_147 : Cond.fieldLink RX1 48 "ShortEnough$Task" "numbers" "LShortEnough$Numbers;" ∈ wsX1_search := List.mem_of_getElem? (i := 1) (by decide +kernel)
theorem zn_X1_search_X4 : ∀ w ∈ wsX40, w ∈ wsX1_search := fun _ h => List.mem_cons_of_mem _ (List.mem_append_left _ (List.mem_append_left _ (List.mem_append_left _ (List.mem_append_left _ (List.mem_append_right _ h)))))
theorem zw_X1_search_149 : Cond.fieldLink RX1 54 "ShortEnough$Numbers" "count" "I" ∈ wsX1_search := List.mem_of_getElem? (i := 2) (by decide +kernel)
theorem zw_X1_search_150 : Cond.fieldLink RX1 59 "ShortEnough$Task" "groups" "LShortEnough$Groups;" ∈ wsX1_search := List.mem_of_getElem? (i := 3) (by decide +kernel)
theorem zn_X1_search_X2 : ∀ w ∈ wsX20, w ∈ wsX1_search := fun _ h => List.mem_cons_of_mem _ (List.mem_append_left _ (List.mem_append_left _ (List.mem_append_left _ (List.mem_append_right _ h))))
theorem zw_X1_search_152 : Cond.fieldLink RX1 63 "ShortEnough$Groups" "free" "I" ∈ wsX1_search := List.mem_of_getElem? (i := 4) (by decide +kernel)
theorem zn_X1_search_X1 : ∀ w ∈ wsX10, w ∈ wsX1_search := fun _ h => List.mem_cons_of_mem _ (List.mem_append_left _ (List.mem_append_left _ (List.mem_append_right _ h)))
theorem zw_X1_search_154 : Cond.fieldLink RX1 44 "ShortEnough$FullSearch" "ready" "Z" ∈ wsX1_search := List.mem_of_getElem? (i := 5) (by decide +kernel)
theorem zw_X1_search_155 : Cond.fieldLink RX1 68 "ShortEnough$FullSearch" "many" "I" ∈ wsX1_search := List.mem_of_getElem? (i := 6) (by decide +kernel)
theorem zw_X1_search_156 : Cond.fieldLink RX1 28 "ShortEnough$FullSearch" "best" "I" ∈ wsX1_search := List.mem_of_getElem? (i := 7) (by decide +kernel)
set_option maxHeartbeats 4000000 in
set_option maxRecDepth 100000 in
theorem zf_X1_search (l : Launch) (dC : Nat → ClassId) (dI : Nat → Nat → Nat) (h0 : Nat) (h1 : Nat) (r0_0 : Nat) (r0_1 : Nat) (v0_2 : Int32) (v0_3 : Int32) (r0_4 : Nat) (r0_5 : Nat) (v0_6 : Int32) (v0_7 : Int32) (v0_8 : Int32) (v0_9 : Int32) (v0_10 : Int32) (r0_11 : Nat) (r0_12 : Nat) (r0_13 : Nat) (v1_0 : Int32) (r1_1 : Nat) (r1_2 : Nat) (r1_3 : Nat) (r1_4 : Nat) (v1_5 : Int32) (r1_6 : Nat) (r1_7 : Nat) (r1_8 : Nat) (v2_0 : Int32) (v2_1 : Int32) (r2_2 : Nat) (r2_3 : Nat) (r2_4 : Nat) (r2_5 : Nat) (r2_6 : Nat) (r2_7 : Nat) (r2_8 : Nat) (r2_9 : Nat) (v3_0 : Int32) (v3_1 : Int32) (v3_2 : Int32) (r3_3 : Nat) (r3_4 : Nat) (r3_5 : Nat) (k4 : Nat) (f4 : Nat → Int32) (k5 : Nat) (n5 : Nat) (f5 : Nat → Int32) (k6 : Nat) (n6 : Nat) (f6 : Nat → Int32) (k7 : Nat) (n7 : Nat) (f7 : Nat → Int32) (k8 : Nat) (n8 : Nat) (f8 : Nat → Int32) (k9 : Nat) (n9 : Nat) (f9 : Nat → Int32) (k10 : Nat) (f10 : Nat → Int32) (k11 : Nat) (f11 : Nat → Int32) (r12_0 : Nat) (v12_1 : Int32) (v12_2 : Int32) (k13 : Nat) (f13 : Nat → Int32) (k14 : Nat) (f14 : Nat → Int32) (k15 : Nat) (f15 : Nat → Int32) (k16 : Nat) (f16 : Nat → Int32) (k17 : Nat) (f17 : Nat → Int64) (k18 : Nat) (f18 : Nat → Int32) (r19_0 : Nat) (r19_1 : Nat) (r19_2 : Nat) (k20 : Nat) (f20 : Nat → Int64) (k21 : Nat) (f21 : Nat → Int64) (k22 : Nat) (f22 : Nat → Int32) (k23 : Nat) (f23 : Nat → Int32) (o : Int32 × Int32 × Int32 × Int32 × Int32 × Int32 × (Nat → Int32) × Nat × (Nat → Int32) × Nat × (Nat → Int32) × Nat × (Nat → Int32) × Nat × (Nat → Int32) × Nat × (Nat → Int32) × Int32 × Int32 × (Nat → Int64)) (hfn : fn_X1_search v0_2 v0_3 v0_6 v0_7 v0_8 v1_0 v1_5 v2_0 v3_0 v3_1 v3_2 f4 n5 f5 n6 f6 n7 f7 n8 f8 n9 f9 f10 f11 v12_1 v12_2 f13 f14 f15 f16 f17 f18 f20 f21 f22 f23 = some o) (sz : Nat) : Met l yX1_search wsX1_search ({ frames := 5, cells := 5, slots := 18432, locals := 148 }) (va_Pc [.ref h0, .ref h1] (fun U => va_Nw (.methodLinkNest RX7 90 yX11_divides RX11) U ∧ U.heap.size = sz ∧ va_P (dC, dI) vwCl [zV1 h0 r0_0 r0_1 v0_2 v0_3 r0_4 r0_5 v0_6 v0_7 v0_8 v0_9 v0_10 r0_11 r0_12 r0_13, zV9 h1 v1_0 r1_1 r1_2 r1_3 r1_4 v1_5 r1_6 r1_7 r1_8, zV4 r1_6 v2_0 v2_1 r2_2 r2_3 r2_4 r2_5 r2_6 r2_7 r2_8 r2_9, zV2 r1_7 v3_0 v3_1 v3_2 r3_3 r3_4 r3_5, zVi r2_5 k4 14 f4, zVi r0_4 k5 n5 f5, zVi r0_5 k6 n6 f6, zVi r0_12 k7 n7 f7, zVi r0_11 k8 n8 f8, zVi r0_13 k9 n9 f9, zVi r3_4 k10 14 f10, zVi r0_1 k11 14 f11, zV7 r0_0 r12_0 v12_1 v12_2, zVi r3_3 k13 14 f13, zVi r1_2 k14 4 f14, zVi r2_3 k15 14 f15, zVi r2_8 k16 28 f16, zVl r12_0 k17 14 f17, zVi r2_9 k18 28 f18, zV6 r1_8 r19_0 r19_1 r19_2, zVl r19_0 k20 14 f20, zVl r19_1 k21 14 f21, zVi r1_3 k22 4 f22, zVi r1_4 k23 4 f23] U.heap ∧ va_K (dC, dI) vwCl [(k4, .int), (k5, .int), (k6, .int), (k7, .int), (k8, .int), (k9, .int), (k10, .int), (k11, .int), (k13, .int), (k14, .int), (k15, .int), (k16, .int), (k17, .long), (k18, .int), (k20, .long), (k21, .long), (k22, .int), (k23, .int)] U ∧ va_D (fun _ => True) [zV1 h0 r0_0 r0_1 v0_2 v0_3 r0_4 r0_5 v0_6 v0_7 v0_8 v0_9 v0_10 r0_11 r0_12 r0_13, zV9 h1 v1_0 r1_1 r1_2 r1_3 r1_4 v1_5 r1_6 r1_7 r1_8, zV4 r1_6 v2_0 v2_1 r2_2 r2_3 r2_4 r2_5 r2_6 r2_7 r2_8 r2_9, zV2 r1_7 v3_0 v3_1 v3_2 r3_3 r3_4 r3_5, zVi r2_5 k4 14 f4, zVi r0_4 k5 n5 f5, zVi r0_5 k6 n6 f6, zVi r0_12 k7 n7 f7, zVi r0_11 k8 n8 f8, zVi r0_13 k9 n9 f9, zVi r3_4 k10 14 f10, zVi r0_1 k11 14 f11, zV7 r0_0 r12_0 v12_1 v12_2, zVi r3_3 k13 14 f13, zVi r1_2 k14 4 f14, zVi r2_3 k15 14 f15, zVi r2_8 k16 28 f16, zVl r12_0 k17 14 f17, zVi r2_9 k18 28 f18, zV6 r1_8 r19_0 r19_1 r19_2, zVl r19_0 k20 14 f20, zVl r19_1 k21 14 f21, zVi r1_3 k22 4 f22, zVi r1_4 k23 4 f23])) (va_Qi (fun (r : Int32) (u : Nat → Nat) => r = o.1 ∧ narrow .boolean (.int o.1) = .int o.1) (fun u t => va_P (dC, dI) vwCl [zV1 h0 r0_0 r0_1 o.2.1 o.2.2.1 (u 0) (u 2) o.2.2.2.1 o.2.2.2.2.1 o.2.2.2.2.2.1 v0_9 v0_10 (u 6) (u 4) (u 8), zV9 h1 v1_0 r1_1 r1_2 r1_3 r1_4 v1_5 r1_6 r1_7 r1_8, zV4 r1_6 v2_0 v2_1 r2_2 r2_3 r2_4 r2_5 r2_6 r2_7 r2_8 r2_9, zV2 r1_7 v3_0 v3_1 v3_2 r3_3 r3_4 r3_5, zVi r2_5 k4 14 f4, zVi (u 0) (u 1) o.2.2.2.2.2.2.2.1 o.2.2.2.2.2.2.1, zVi (u 2) (u 3) o.2.2.2.2.2.2.2.2.2.1 o.2.2.2.2.2.2.2.2.1, zVi (u 4) (u 5) o.2.2.2.2.2.2.2.2.2.2.2.1 o.2.2.2.2.2.2.2.2.2.2.1, zVi (u 6) (u 7) o.2.2.2.2.2.2.2.2.2.2.2.2.2.1 o.2.2.2.2.2.2.2.2.2.2.2.2.1, zVi (u 8) (u 9) o.2.2.2.2.2.2.2.2.2.2.2.2.2.2.2.1 o.2.2.2.2.2.2.2.2.2.2.2.2.2.2.1, zVi r3_4 k10 14 f10, zVi r0_1 k11 14 o.2.2.2.2.2.2.2.2.2.2.2.2.2.2.2.2.1, zV7 r0_0 r12_0 o.2.2.2.2.2.2.2.2.2.2.2.2.2.2.2.2.2.1 o.2.2.2.2.2.2.2.2.2.2.2.2.2.2.2.2.2.2.1, zVi r3_3 k13 14 f13, zVi r1_2 k14 4 f14, zVi r2_3 k15 14 f15, zVi r2_8 k16 28 f16, zVl r12_0 k17 14 o.2.2.2.2.2.2.2.2.2.2.2.2.2.2.2.2.2.2.2, zVi r2_9 k18 28 f18, zV6 r1_8 r19_0 r19_1 r19_2, zVl r19_0 k20 14 f20, zVl r19_1 k21 14 f21, zVi r1_3 k22 4 f22, zVi r1_4 k23 4 f23] t.heap ∧ va_K (dC, dI) vwCl [(k4, .int), ((u 1), .int), ((u 3), .int), ((u 5), .int), ((u 7), .int), ((u 9), .int), (k10, .int), (k11, .int), (k13, .int), (k14, .int), (k15, .int), (k16, .int), (k17, .long), (k18, .int), (k20, .long), (k21, .long), (k22, .int), (k23, .int)] t ∧ va_D (va_A [zV1 h0 r0_0 r0_1 v0_2 v0_3 r0_4 r0_5 v0_6 v0_7 v0_8 v0_9 v0_10 r0_11 r0_12 r0_13, zV9 h1 v1_0 r1_1 r1_2 r1_3 r1_4 v1_5 r1_6 r1_7 r1_8, zV4 r1_6 v2_0 v2_1 r2_2 r2_3 r2_4 r2_5 r2_6 r2_7 r2_8 r2_9, zV2 r1_7 v3_0 v3_1 v3_2 r3_3 r3_4 r3_5, zVi r2_5 k4 14 f4, zVi r0_4 k5 n5 f5, zVi r0_5 k6 n6 f6, zVi r0_12 k7 n7 f7, zVi r0_11 k8 n8 f8, zVi r0_13 k9 n9 f9, zVi r3_4 k10 14 f10, zVi r0_1 k11 14 f11, zV7 r0_0 r12_0 v12_1 v12_2, zVi r3_3 k13 14 f13, zVi r1_2 k14 4 f14, zVi r2_3 k15 14 f15, zVi r2_8 k16 28 f16, zVl r12_0 k17 14 f17, zVi r2_9 k18 28 f18, zV6 r1_8 r19_0 r19_1 r19_2, zVl r19_0 k20 14 f20, zVl r19_1 k21 14 f21, zVi r1_3 k22 4 f22, zVi r1_4 k23 4 f23] sz) [zV1 h0 r0_0 r0_1 o.2.1 o.2.2.1 (u 0) (u 2) o.2.2.2.1 o.2.2.2.2.1 o.2.2.2.2.2.1 v0_9 v0_10 (u 6) (u 4) (u 8), zV9 h1 v1_0 r1_1 r1_2 r1_3 r1_4 v1_5 r1_6 r1_7 r1_8, zV4 r1_6 v2_0 v2_1 r2_2 r2_3 r2_4 r2_5 r2_6 r2_7 r2_8 r2_9, zV2 r1_7 v3_0 v3_1 v3_2 r3_3 r3_4 r3_5, zVi r2_5 k4 14 f4, zVi (u 0) (u 1) o.2.2.2.2.2.2.2.1 o.2.2.2.2.2.2.1, zVi (u 2) (u 3) o.2.2.2.2.2.2.2.2.2.1 o.2.2.2.2.2.2.2.2.1, zVi (u 4) (u 5) o.2.2.2.2.2.2.2.2.2.2.2.1 o.2.2.2.2.2.2.2.2.2.2.1, zVi (u 6) (u 7) o.2.2.2.2.2.2.2.2.2.2.2.2.2.1 o.2.2.2.2.2.2.2.2.2.2.2.2.1, zVi (u 8) (u 9) o.2.2.2.2.2.2.2.2.2.2.2.2.2.2.2.1 o.2.2.2.2.2.2.2.2.2.2.2.2.2.2.1, zVi r3_4 k10 14 f10, zVi r0_1 k11 14 o.2.2.2.2.2.2.2.2.2.2.2.2.2.2.2.2.1, zV7 r0_0 r12_0 o.2.2.2.2.2.2.2.2.2.2.2.2.2.2.2.2.2.1 o.2.2.2.2.2.2.2.2.2.2.2.2.2.2.2.2.2.2.1, zVi r3_3 k13 14 f13, zVi r1_2 k14 4 f14, zVi r2_3 k15 14 f15, zVi r2_8 k16 28 f16, zVl r12_0 k17 14 o.2.2.2.2.2.2.2.2.2.2.2.2.2.2.2.2.2.2.2, zVi r2_9 k18 28 f18, zV6 r1_8 r19_0 r19_1 r19_2, zVl r19_0 k20 14 f20, zVl r19_1 k21 14 f21, zVi r1_3 k22 4 f22, zVi r1_4 k23 4 f23]) (va_A [zV1 h0 r0_0 r0_1 v0_2 v0_3 r0_4 r0_5 v0_6 v0_7 v0_8 v0_9 v0_10 r0_11 r0_12 r0_13, zV9 h1 v1_0 r1_1 r1_2 r1_3 r1_4 v1_5 r1_6 r1_7 r1_8, zV4 r1_6 v2_0 v2_1 r2_2 r2_3 r2_4 r2_5 r2_6 r2_7 r2_8 r2_9, zV2 r1_7 v3_0 v3_1 v3_2 r3_3 r3_4 r3_5, zVi r2_5 k4 14 f4, zVi r0_4 k5 n5 f5, zVi r0_5 k6 n6 f6, zVi r0_12 k7 n7 f7, zVi r0_11 k8 n8 f8, zVi r0_13 k9 n9 f9, zVi r3_4 k10 14 f10, zVi r0_1 k11 14 f11, zV7 r0_0 r12_0 v12_1 v12_2, zVi r3_3 k13 14 f13, zVi r1_2 k14 4 f14, zVi r2_3 k15 14 f15, zVi r2_8 k16 28 f16, zVl r12_0 k17 14 f17, zVi r2_9 k18 28 f18, zV6 r1_8 r19_0 r19_1 r19_2, zVl r19_0 k20 14 f20, zVl r19_1 k21 14 f21, zVi r1_3 k22 4 f22, zVi r1_4 k23 4 f23] sz)) (zc v0_2 o.2.1 5) (zc v0_2 o.2.1 18432) (va_A [zV1 h0 r0_0 r0_1 v0_2 v0_3 r0_4 r0_5 v0_6 v0_7 v0_8 v0_9 v0_10 r0_11 r0_12 r0_13, zV9 h1 v1_0 r1_1 r1_2 r1_3 r1_4 v1_5 r1_6 r1_7 r1_8, zV4 r1_6 v2_0 v2_1 r2_2 r2_3 r2_4 r2_5 r2_6 r2_7 r2_8 r2_9, zV2 r1_7 v3_0 v3_1 v3_2 r3_3 r3_4 r3_5, zVi r2_5 k4 14 f4, zVi r0_4 k5 n5 f5, zVi r0_5 k6 n6 f6, zVi r0_12 k7 n7 f7, zVi r0_11 k8 n8 f8, zVi r0_13 k9 n9 f9, zVi r3_4 k10 14 f10, zVi r0_1 k11 14 f11, zV7 r0_0 r12_0 v12_1 v12_2, zVi r3_3 k13 14 f13, zVi r1_2 k14 4 f14, zVi r2_3 k15 14 f15, zVi r2_8 k16 28 f16, zVl r12_0 k17 14 f17, zVi r2_9 k18 28 f18, zV6 r1_8 r19_0 r19_1 r19_2, zVl r19_0 k20 14 f20, zVl r19_1 k21 14 f21, zVi r1_3 k22 4 f22, zVi r1_4 k23 4 f23] sz) := by
  refine Met.ofW (cc := cX1_search) (maxL := 2) (ret := (some .boolean)) (by decide +kernel) rfl ?_
  intro p e s m args below meth c s₁ B hml hv
  obtain ⟨rfl, hn0, hsz, hP, hK, hD0⟩ := hv
  have hx := B.exec
  have hb := B.bytes
  have hr := B.returns
  have hts := atoms_spec (ws := wsX1_search) B.pre
  have hown : s.vm.findClass RX1 = some m.cls := (findClass_of_methodNamed B.named :)
  have hlocks := B.notSynchronized
  subst hsz
  have hD := hD0.self (sz := s.heap.size)
  generalize hAe : va_A [zV1 h0 r0_0 r0_1 v0_2 v0_3 r0_4 r0_5 v0_6 v0_7 v0_8 v0_9 v0_10 r0_11 r0_12 r0_13, zV9 h1 v1_0 r1_1 r1_2 r1_3 r1_4 v1_5 r1_6 r1_7 r1_8, zV4 r1_6 v2_0 v2_1 r2_2 r2_3 r2_4 r2_5 r2_6 r2_7 r2_8 r2_9, zV2 r1_7 v3_0 v3_1 v3_2 r3_3 r3_4 r3_5, zVi r2_5 k4 14 f4, zVi r0_4 k5 n5 f5, zVi r0_5 k6 n6 f6, zVi r0_12 k7 n7 f7, zVi r0_11 k8 n8 f8, zVi r0_13 k9 n9 f9, zVi r3_4 k10 14 f10, zVi r0_1 k11 14 f11, zV7 r0_0 r12_0 v12_1 v12_2, zVi r3_3 k13 14 f13, zVi r1_2 k14 4 f14, zVi r2_3 k15 14 f15, zVi r2_8 k16 28 f16, zVl r12_0 k17 14 f17, zVi r2_9 k18 28 f18, zV6 r1_8 r19_0 r19_1 r19_2, zVl r19_0 k20 14 f20, zVl r19_1 k21 14 f21, zVi r1_3 k22 4 f22, zVi r1_4 k23 4 f23] s.heap.size = A at hD ⊢
  have hA : ∀ q : Nat, s.heap.size ≤ q → A q := fun q h => by rw [← hAe]; exact Or.inr h
  have hS : va_S A s.heap s.heap [] := va_S.rf
  have hP : va_P (dC, dI) vwCl [zV1 h0 r0_0 r0_1 v0_2 v0_3 r0_4 r0_5 v0_6 v0_7 v0_8 v0_9 v0_10 r0_11 r0_12 r0_13, zV9 h1 v1_0 r1_1 r1_2 r1_3 r1_4 v1_5 r1_6 r1_7 r1_8, zV4 r1_6 v2_0 v2_1 r2_2 r2_3 r2_4 r2_5 r2_6 r2_7 r2_8 r2_9, zV2 r1_7 v3_0 v3_1 v3_2 r3_3 r3_4 r3_5, zVi r2_5 k4 14 f4, zVi r0_4 k5 n5 f5, zVi r0_5 k6 n6 f6, zVi r0_12 k7 n7 f7, zVi r0_11 k8 n8 f8, zVi r0_13 k9 n9 f9, zVi r3_4 k10 14 f10, zVi r0_1 k11 14 f11, zV7 r0_0 r12_0 v12_1 v12_2, zVi r3_3 k13 14 f13, zVi r1_2 k14 4 f14, zVi r2_3 k15 14 f15, zVi r2_8 k16 28 f16, zVl r12_0 k17 14 f17, zVi r2_9 k18 28 f18, zV6 r1_8 r19_0 r19_1 r19_2, zVl r19_0 k20 14 f20, zVl r19_1 k21 14 f21, zVi r1_3 k22 4 f22, zVi r1_4 k23 4 f23] s.heap := hP
  have hl := lv_entry ([.ref h0, .ref h1]) (n := 2) (Nat.le_of_ble_eq_true rfl)
  rw [lg_entry_eq]
  generalize (lg_sl ([.ref h0, .ref h1]) ++ List.replicate (2 - (lg_sl ([.ref h0, .ref h1])).length) Slot.unset).toArray = ls at hl ⊢
  have hl : lv_has ls 2 [(0, .ref h0), (1, .ref h1)] := hl
  refine zQ (fun Q hQ => ?_)
  unfold fn_X1_search at hfn
  refine lv_aload_n hx hb dX1_search_0 rfl (lv_at hl 1 rfl) ?_
  refine va_get (D := (dC, dI)) (ci := 9) (v := .ref r1_6) (C := RX9) (T := TX9) (N := 9) hx hb hts zn_X1_search_X9 hown hK hP 1 rfl rfl 6 (of_decide_eq_true rfl) (hts (.fieldLink RX1 48 "ShortEnough$Task" "numbers" "LShortEnough$Numbers;") zw_X1_search_147) (fun _ h9 => h9) rfl dX1_search_1 ?_
  refine va_get (D := (dC, dI)) (ci := 4) (v := .int v2_0) (C := RX4) (T := TX4) (N := 10) hx hb hts zn_X1_search_X4 hown hK hP 2 rfl rfl 0 (of_decide_eq_true rfl) (hts (.fieldLink RX1 54 "ShortEnough$Numbers" "count" "I") zw_X1_search_149) (fun _ h9 => h9) rfl dX1_search_4 ?_
  refine lv_if_eq (tgt := 21) hx hb dX1_search_7 (of_decide_eq_true rfl) (fun c_1 => ?_) (fun c_1 => ?_)
  · have hfn := (if_pos c_1).symm.trans hfn
    refine lv_iconst (v := 0) hx hb dX1_search_21 zci_0 ?_
    have ho := Option.some.inj hfn
    subst ho
    obtain ⟨hP9, hD9⟩ := zPD (ws' := [zV1 h0 r0_0 r0_1 v0_2 v0_3 r0_4 r0_5 v0_6 v0_7 v0_8 v0_9 v0_10 r0_11 r0_12 r0_13, zV9 h1 v1_0 r1_1 r1_2 r1_3 r1_4 v1_5 r1_6 r1_7 r1_8, zV4 r1_6 v2_0 v2_1 r2_2 r2_3 r2_4 r2_5 r2_6 r2_7 r2_8 r2_9, zV2 r1_7 v3_0 v3_1 v3_2 r3_3 r3_4 r3_5, zVi r2_5 k4 14 f4, zVi r0_4 k5 n5 f5, zVi r0_5 k6 n6 f6, zVi r0_12 k7 n7 f7, zVi r0_11 k8 n8 f8, zVi r0_13 k9 n9 f9, zVi r3_4 k10 14 f10, zVi r0_1 k11 14 f11, zV7 r0_0 r12_0 v12_1 v12_2, zVi r3_3 k13 14 f13, zVi r1_2 k14 4 f14, zVi r2_3 k15 14 f15, zVi r2_8 k16 28 f16, zVl r12_0 k17 14 f17, zVi r2_9 k18 28 f18, zV6 r1_8 r19_0 r19_1 r19_2, zVl r19_0 k20 14 f20, zVl r19_1 k21 14 f21, zVi r1_3 k22 4 f22, zVi r1_4 k23 4 f23]) hP hD [0, 1, 2, 3, 4, 5, 6, 7, 8, 9, 10, 11, 12, 13, 14, 15, 16, 17, 18, 19, 20, 21, 22, 23] (of_decide_eq_true rfl) rfl
    have hK9 := hK.sub (tys' := [(k4, .int), (k5, .int), (k6, .int), (k7, .int), (k8, .int), (k9, .int), (k10, .int), (k11, .int), (k13, .int), (k14, .int), (k15, .int), (k16, .int), (k17, .long), (k18, .int), (k20, .long), (k21, .long), (k22, .int), (k23, .int)]) [0, 1, 2, 3, 4, 5, 6, 7, 8, 9, 10, 11, 12, 13, 14, 15, 16, 17] rfl
    refine W.widen (k := zc v0_2 v0_2 5) (n := zc v0_2 v0_2 18432) (Nat.zero_le _) (Nat.zero_le _) ?_
    rw [← hQ]
    exact W.zret (v := 0) hx hb hr rfl (fun t ht hW => ⟨⟨0, (fun k => ([r0_4, k5, r0_5, k6, r0_12, k7, r0_11, k8, r0_13, k9] : List Nat).getD k 0), rfl, ⟨rfl, zB0⟩, by rw [ht]; exact hP9, va_K.moved hW.alike hK9, hD9⟩, hS.F ht⟩) hS.2.2 dX1_search_22
  have hfn := (if_neg c_1).symm.trans hfn
  refine lv_aload_n hx hb dX1_search_10 rfl (lv_at hl 1 rfl) ?_
  refine va_get (D := (dC, dI)) (ci := 9) (v := .ref r1_7) (C := RX9) (T := TX9) (N := 9) hx hb hts zn_X1_search_X9 hown hK hP 1 rfl rfl 7 (of_decide_eq_true rfl) (hts (.fieldLink RX1 59 "ShortEnough$Task" "groups" "LShortEnough$Groups;") zw_X1_search_150) (fun _ h9 => h9) rfl dX1_search_11 ?_
  refine va_get (D := (dC, dI)) (ci := 2) (v := .int v3_1) (C := RX2) (T := TX2) (N := 6) hx hb hts zn_X1_search_X2 hown hK hP 3 rfl rfl 1 (of_decide_eq_true rfl) (hts (.fieldLink RX1 63 "ShortEnough$Groups" "free" "I") zw_X1_search_152) (fun _ h9 => h9) rfl dX1_search_14 ?_
  refine lv_iconst (v := 5) hx hb dX1_search_17 zci_5 ?_
  refine lv_icmp_le (tgt := 23) hx hb dX1_search_18 (of_decide_eq_true rfl) (fun c_2 => ?_) (fun c_2 => ?_)
  · have hfn := (if_pos c_2).symm.trans hfn
    refine lv_aload_n hx hb dX1_search_23 rfl (lv_at hl 0 rfl) ?_
    refine va_get (D := (dC, dI)) (ci := 1) (v := .int v0_2) (C := RX1) (T := TX1) (N := 14) hx hb hts zn_X1_search_X1 hown hK hP 0 rfl rfl 2 (of_decide_eq_true rfl) (hts (.fieldLink RX1 44 "ShortEnough$FullSearch" "ready" "Z") zw_X1_search_154) (fun _ h9 => h9) rfl dX1_search_24 ?_
    refine lv_if_ne (tgt := 57) hx hb dX1_search_27 (of_decide_eq_true rfl) (fun c_3 => ?_) (fun c_3 => ?_)
    · have hfn := (if_neg c_3).symm.trans hfn
      refine lv_iconst (v := 1) hx hb dX1_search_57 zci_1 ?_
      have ho := Option.some.inj hfn
      subst ho
      obtain ⟨hP9, hD9⟩ := zPD (ws' := [zV1 h0 r0_0 r0_1 v0_2 v0_3 r0_4 r0_5 v0_6 v0_7 v0_8 v0_9 v0_10 r0_11 r0_12 r0_13, zV9 h1 v1_0 r1_1 r1_2 r1_3 r1_4 v1_5 r1_6 r1_7 r1_8, zV4 r1_6 v2_0 v2_1 r2_2 r2_3 r2_4 r2_5 r2_6 r2_7 r2_8 r2_9, zV2 r1_7 v3_0 v3_1 v3_2 r3_3 r3_4 r3_5, zVi r2_5 k4 14 f4, zVi r0_4 k5 n5 f5, zVi r0_5 k6 n6 f6, zVi r0_12 k7 n7 f7, zVi r0_11 k8 n8 f8, zVi r0_13 k9 n9 f9, zVi r3_4 k10 14 f10, zVi r0_1 k11 14 f11, zV7 r0_0 r12_0 v12_1 v12_2, zVi r3_3 k13 14 f13, zVi r1_2 k14 4 f14, zVi r2_3 k15 14 f15, zVi r2_8 k16 28 f16, zVl r12_0 k17 14 f17, zVi r2_9 k18 28 f18, zV6 r1_8 r19_0 r19_1 r19_2, zVl r19_0 k20 14 f20, zVl r19_1 k21 14 f21, zVi r1_3 k22 4 f22, zVi r1_4 k23 4 f23]) hP hD [0, 1, 2, 3, 4, 5, 6, 7, 8, 9, 10, 11, 12, 13, 14, 15, 16, 17, 18, 19, 20, 21, 22, 23] (of_decide_eq_true rfl) rfl
      have hK9 := hK.sub (tys' := [(k4, .int), (k5, .int), (k6, .int), (k7, .int), (k8, .int), (k9, .int), (k10, .int), (k11, .int), (k13, .int), (k14, .int), (k15, .int), (k16, .int), (k17, .long), (k18, .int), (k20, .long), (k21, .long), (k22, .int), (k23, .int)]) [0, 1, 2, 3, 4, 5, 6, 7, 8, 9, 10, 11, 12, 13, 14, 15, 16, 17] rfl
      refine W.widen (k := zc v0_2 v0_2 5) (n := zc v0_2 v0_2 18432) (Nat.zero_le _) (Nat.zero_le _) ?_
      rw [← hQ]
      exact W.zret (v := 1) hx hb hr rfl (fun t ht hW => ⟨⟨1, (fun k => ([r0_4, k5, r0_5, k6, r0_12, k7, r0_11, k8, r0_13, k9] : List Nat).getD k 0), rfl, ⟨rfl, zB1⟩, by rw [ht]; exact hP9, va_K.moved hW.alike hK9, hD9⟩, hS.F ht⟩) hS.2.2 dX1_search_58
    have hfn := (if_pos c_3).symm.trans hfn
    refine lv_aload_n hx hb dX1_search_30 rfl (lv_at hl 0 rfl) ?_
    refine lv_iconst (v := 1) hx hb dX1_search_31 zci_1 ?_
    refine va_put (D := (dC, dI)) (ci := 1) (v := .int 1) (ty := .boolean) (C := RX1) (T := TX1) (N := 14) hx hb hts zn_X1_search_X1 tyX1 tyX1_ok nmX1 hown hK hP hD hS 0 rfl rfl 2 (of_decide_eq_true rfl) (hts (.fieldLink RX1 44 "ShortEnough$FullSearch" "ready" "Z") zw_X1_search_154) (fun _ h9 => h9) rfl (tyX1_ok 2 (of_decide_eq_true rfl)) rfl rfl (Nat.le_of_ble_eq_true rfl) dX1_search_32 (fun H locs hP hD hS => ?_)
    have hP : va_P (dC, dI) vwCl [zV1 h0 r0_0 r0_1 1 v0_3 r0_4 r0_5 v0_6 v0_7 v0_8 v0_9 v0_10 r0_11 r0_12 r0_13, zV9 h1 v1_0 r1_1 r1_2 r1_3 r1_4 v1_5 r1_6 r1_7 r1_8, zV4 r1_6 v2_0 v2_1 r2_2 r2_3 r2_4 r2_5 r2_6 r2_7 r2_8 r2_9, zV2 r1_7 v3_0 v3_1 v3_2 r3_3 r3_4 r3_5, zVi r2_5 k4 14 f4, zVi r0_4 k5 n5 f5, zVi r0_5 k6 n6 f6, zVi r0_12 k7 n7 f7, zVi r0_11 k8 n8 f8, zVi r0_13 k9 n9 f9, zVi r3_4 k10 14 f10, zVi r0_1 k11 14 f11, zV7 r0_0 r12_0 v12_1 v12_2, zVi r3_3 k13 14 f13, zVi r1_2 k14 4 f14, zVi r2_3 k15 14 f15, zVi r2_8 k16 28 f16, zVl r12_0 k17 14 f17, zVi r2_9 k18 28 f18, zV6 r1_8 r19_0 r19_1 r19_2, zVl r19_0 k20 14 f20, zVl r19_1 k21 14 f21, zVi r1_3 k22 4 f22, zVi r1_4 k23 4 f23] H := hP
    have hD := zDW hD hP rfl
    refine lv_aload_n hx hb dX1_search_35 rfl (lv_at hl 0 rfl) ?_
    refine lv_iconst (v := 0) hx hb dX1_search_36 zci_0 ?_
    refine va_put (D := (dC, dI)) (ci := 1) (v := .int 0) (ty := .int) (C := RX1) (T := TX1) (N := 14) hx hb hts zn_X1_search_X1 tyX1 tyX1_ok nmX1 hown hK hP hD hS 0 rfl rfl 6 (of_decide_eq_true rfl) (hts (.fieldLink RX1 68 "ShortEnough$FullSearch" "many" "I") zw_X1_search_155) (fun _ h9 => h9) rfl (tyX1_ok 6 (of_decide_eq_true rfl)) rfl rfl (Nat.le_of_ble_eq_true rfl) dX1_search_37 (fun H locs hP hD hS => ?_)
    have hP : va_P (dC, dI) vwCl [zV1 h0 r0_0 r0_1 1 v0_3 r0_4 r0_5 0 v0_7 v0_8 v0_9 v0_10 r0_11 r0_12 r0_13, zV9 h1 v1_0 r1_1 r1_2 r1_3 r1_4 v1_5 r1_6 r1_7 r1_8, zV4 r1_6 v2_0 v2_1 r2_2 r2_3 r2_4 r2_5 r2_6 r2_7 r2_8 r2_9, zV2 r1_7 v3_0 v3_1 v3_2 r3_3 r3_4 r3_5, zVi r2_5 k4 14 f4, zVi r0_4 k5 n5 f5, zVi r0_5 k6 n6 f6, zVi r0_12 k7 n7 f7, zVi r0_11 k8 n8 f8, zVi r0_13 k9 n9 f9, zVi r3_4 k10 14 f10, zVi r0_1 k11 14 f11, zV7 r0_0 r12_0 v12_1 v12_2, zVi r3_3 k13 14 f13, zVi r1_2 k14 4 f14, zVi r2_3 k15 14 f15, zVi r2_8 k16 28 f16, zVl r12_0 k17 14 f17, zVi r2_9 k18 28 f18, zV6 r1_8 r19_0 r19_1 r19_2, zVl r19_0 k20 14 f20, zVl r19_1 k21 14 f21, zVi r1_3 k22 4 f22, zVi r1_4 k23 4 f23] H := hP
    have hD := zDW hD hP rfl
    refine lv_aload_n hx hb dX1_search_40 rfl (lv_at hl 0 rfl) ?_
    refine lv_iconst (v := (-1)) hx hb dX1_search_41 zci_m1 ?_
    refine va_put (D := (dC, dI)) (ci := 1) (v := .int (-1)) (ty := .int) (C := RX1) (T := TX1) (N := 14) hx hb hts zn_X1_search_X1 tyX1 tyX1_ok nmX1 hown hK hP hD hS 0 rfl rfl 7 (of_decide_eq_true rfl) (hts (.fieldLink RX1 28 "ShortEnough$FullSearch" "best" "I") zw_X1_search_156) (fun _ h9 => h9) rfl (tyX1_ok 7 (of_decide_eq_true rfl)) rfl rfl (Nat.le_of_ble_eq_true rfl) dX1_search_42 (fun H locs hP hD hS => ?_)
    have hP : va_P (dC, dI) vwCl [zV1 h0 r0_0 r0_1 1 v0_3 r0_4 r0_5 0 (-1) v0_8 v0_9 v0_10 r0_11 r0_12 r0_13, zV9 h1 v1_0 r1_1 r1_2 r1_3 r1_4 v1_5 r1_6 r1_7 r1_8, zV4 r1_6 v2_0 v2_1 r2_2 r2_3 r2_4 r2_5 r2_6 r2_7 r2_8 r2_9, zV2 r1_7 v3_0 v3_1 v3_2 r3_3 r3_4 r3_5, zVi r2_5 k4 14 f4, zVi r0_4 k5 n5 f5, zVi r0_5 k6 n6 f6, zVi r0_12 k7 n7 f7, zVi r0_11 k8 n8 f8, zVi r0_13 k9 n9 f9, zVi r3_4 k10 14 f10, zVi r0_1 k11 14 f11, zV7 r0_0 r12_0 v12_1 v12_2, zVi r3_3 k13 14 f13, zVi r1_2 k14 4 f14, zVi r2_3 k15 14 f15, zVi r2_8 k16 28 f16, zVl r12_0 k17 14 f17, zVi r2_9 k18 28 f18, zV6 r1_8 r19_0 r19_1 r19_2, zVl r19_0 k20 14 f20, zVl r19_1 k21 14 f21, zVi r1_3 k22 4 f22, zVi r1_4 k23 4 f23] H := hP
    have hD := zDW hD hP rfl
    refine lv_aload_n hx hb dX1_search_45 rfl (lv_at hl 1 rfl) ?_
    obtain ⟨o_4, hqo_4, hfn⟩ := zb_s hfn
    refine zcVb (ci := 9) (rest := []) (pc' := 49) (ws' := [zV1 h0 r0_0 r0_1 1 v0_3 r0_4 r0_5 0 (-1) v0_8 v0_9 v0_10 r0_11 r0_12 r0_13, zV9 h1 v1_0 r1_1 r1_2 r1_3 r1_4 v1_5 r1_6 r1_7 r1_8, zV4 r1_6 v2_0 v2_1 r2_2 r2_3 r2_4 r2_5 r2_6 r2_7 r2_8 r2_9, zV2 r1_7 v3_0 v3_1 v3_2 r3_3 r3_4 r3_5, zVi r2_5 k4 14 f4, zVi r0_4 k5 n5 f5, zVi r0_5 k6 n6 f6, zVi r0_12 k7 n7 f7, zVi r0_11 k8 n8 f8, zVi r0_13 k9 n9 f9, zVi r3_4 k10 14 f10, zVi r0_1 k11 14 f11, zV7 r0_0 r12_0 v12_1 v12_2, zVi r3_3 k13 14 f13, zVi r1_2 k14 4 f14, zVi r2_3 k15 14 f15, zVi r2_8 k16 28 f16, zVl r12_0 k17 14 f17, zVi r2_9 k18 28 f18, zV6 r1_8 r19_0 r19_1 r19_2, zVl r19_0 k20 14 f20, zVl r19_1 k21 14 f21, zVi r1_3 k22 4 f22, zVi r1_4 k23 4 f23]) hP hK hD hS hA ⟨hx, hb, hml, hown, hts⟩ (zf_X9_hasChoice l dC dI h1 v1_0 r1_1 r1_2 r1_3 r1_4 v1_5 r1_6 r1_7 r1_8 v2_0 v2_1 r2_2 r2_3 r2_4 r2_5 r2_6 r2_7 r2_8 r2_9 v3_0 v3_1 v3_2 r3_3 r3_4 r3_5 o_4 hqo_4 H.size) (cwV 0 hts gX1_search_X9_hasChoice rfl rfl rfl zhd_X9_hasChoice ⟨Nat.le_of_ble_eq_true rfl, Nat.le_of_ble_eq_true rfl⟩) [1, 2, 3] rfl (of_decide_eq_true rfl) [] rfl rfl rfl rfl hl.1 rfl (Nat.le_of_ble_eq_true rfl) dX1_search_46 ⟨Nat.le_of_ble_eq_true rfl, Nat.le_of_ble_eq_true rfl⟩ [none, some 0, some 1, some 2] (of_decide_eq_true rfl) (of_decide_eq_true rfl) rfl rfl rfl (fun H locs hw_7n hP hD hS => ?_)
    refine lv_if_eq (tgt := 57) hx hb dX1_search_49 (of_decide_eq_true rfl) (fun c_8 => ?_) (fun c_8 => ?_)
    · have hfn := (if_pos c_8).symm.trans hfn
      refine lv_iconst (v := 1) hx hb dX1_search_57 zci_1 ?_
      have ho := Option.some.inj hfn
      subst ho
      obtain ⟨hP9, hD9⟩ := zPD (ws' := [zV1 h0 r0_0 r0_1 1 v0_3 r0_4 r0_5 0 (-1) v0_8 v0_9 v0_10 r0_11 r0_12 r0_13, zV9 h1 v1_0 r1_1 r1_2 r1_3 r1_4 v1_5 r1_6 r1_7 r1_8, zV4 r1_6 v2_0 v2_1 r2_2 r2_3 r2_4 r2_5 r2_6 r2_7 r2_8 r2_9, zV2 r1_7 v3_0 v3_1 v3_2 r3_3 r3_4 r3_5, zVi r2_5 k4 14 f4, zVi r0_4 k5 n5 f5, zVi r0_5 k6 n6 f6, zVi r0_12 k7 n7 f7, zVi r0_11 k8 n8 f8, zVi r0_13 k9 n9 f9, zVi r3_4 k10 14 f10, zVi r0_1 k11 14 f11, zV7 r0_0 r12_0 v12_1 v12_2, zVi r3_3 k13 14 f13, zVi r1_2 k14 4 f14, zVi r2_3 k15 14 f15, zVi r2_8 k16 28 f16, zVl r12_0 k17 14 f17, zVi r2_9 k18 28 f18, zV6 r1_8 r19_0 r19_1 r19_2, zVl r19_0 k20 14 f20, zVl r19_1 k21 14 f21, zVi r1_3 k22 4 f22, zVi r1_4 k23 4 f23]) hP hD [0, 1, 2, 3, 4, 5, 6, 7, 8, 9, 10, 11, 12, 13, 14, 15, 16, 17, 18, 19, 20, 21, 22, 23] (of_decide_eq_true rfl) rfl
      have hK9 := hK.sub (tys' := [(k4, .int), (k5, .int), (k6, .int), (k7, .int), (k8, .int), (k9, .int), (k10, .int), (k11, .int), (k13, .int), (k14, .int), (k15, .int), (k16, .int), (k17, .long), (k18, .int), (k20, .long), (k21, .long), (k22, .int), (k23, .int)]) [0, 1, 2, 3, 4, 5, 6, 7, 8, 9, 10, 11, 12, 13, 14, 15, 16, 17] rfl
      refine W.widen (k := zc v0_2 (1 : Int32) 5) (n := zc v0_2 (1 : Int32) 18432) (Nat.zero_le _) (Nat.zero_le _) ?_
      rw [← hQ]
      exact W.zret (v := 1) hx hb hr rfl (fun t ht hW => ⟨⟨1, (fun k => ([r0_4, k5, r0_5, k6, r0_12, k7, r0_11, k8, r0_13, k9] : List Nat).getD k 0), rfl, ⟨rfl, zB1⟩, by rw [ht]; exact hP9, va_K.moved hW.alike hK9, hD9⟩, hS.F ht⟩) hS.2.2 dX1_search_58
    have hfn := (if_neg c_8).symm.trans hfn
    refine lv_aload_n hx hb dX1_search_52 rfl (lv_at hl 0 rfl) ?_
    refine lv_aload_n hx hb dX1_search_53 rfl (lv_at hl 1 rfl) ?_
    obtain ⟨o_9, hqo_9, hfn⟩ := zb_s hfn
    have hC := zC hP [0, 1, 3, 2, 4, 5, 6, 7, 8, 9, 10, 11, 12, 13, 14, 15, 16, 17, 18, 19, 20, 21, 22, 23] (wc := [zV1 h0 r0_0 r0_1 1 v0_3 r0_4 r0_5 0 (-1) v0_8 v0_9 v0_10 r0_11 r0_12 r0_13, zV9 h1 v1_0 r1_1 r1_2 r1_3 r1_4 v1_5 r1_6 r1_7 r1_8, zV2 r1_7 v3_0 v3_1 v3_2 r3_3 r3_4 r3_5, zV4 r1_6 v2_0 v2_1 r2_2 r2_3 r2_4 r2_5 r2_6 r2_7 r2_8 r2_9, zVi r2_5 k4 14 f4, zVi r0_4 k5 n5 f5, zVi r0_5 k6 n6 f6, zVi r0_12 k7 n7 f7, zVi r0_11 k8 n8 f8, zVi r0_13 k9 n9 f9, zVi r3_4 k10 14 f10, zVi r0_1 k11 14 f11, zV7 r0_0 r12_0 v12_1 v12_2, zVi r3_3 k13 14 f13, zVi r1_2 k14 4 f14, zVi r2_3 k15 14 f15, zVi r2_8 k16 28 f16, zVl r12_0 k17 14 f17, zVi r2_9 k18 28 f18, zV6 r1_8 r19_0 r19_1 r19_2, zVl r19_0 k20 14 f20, zVl r19_1 k21 14 f21, zVi r1_3 k22 4 f22, zVi r1_4 k23 4 f23]) rfl
    have hPc := hP.sub [0, 1, 3, 2, 4, 5, 6, 7, 8, 9, 10, 11, 12, 13, 14, 15, 16, 17, 18, 19, 20, 21, 22, 23] (zfm hC)
    have hDc := hD.sub [0, 1, 3, 2, 4, 5, 6, 7, 8, 9, 10, 11, 12, 13, 14, 15, 16, 17, 18, 19, 20, 21, 22, 23] (of_decide_eq_true rfl) hC
    have hKc := hK.sub (tys' := [(k4, .int), (k5, .int), (k6, .int), (k7, .int), (k8, .int), (k9, .int), (k10, .int), (k11, .int), (k13, .int), (k14, .int), (k15, .int), (k16, .int), (k17, .long), (k18, .int), (k20, .long), (k21, .long), (k22, .int), (k23, .int)]) [0, 1, 2, 3, 4, 5, 6, 7, 8, 9, 10, 11, 12, 13, 14, 15, 16, 17] rfl
    have hFc := va_free hD hS hA [0, 1, 3, 2, 4, 5, 6, 7, 8, 9, 10, 11, 12, 13, 14, 15, 16, 17, 18, 19, 20, 21, 22, 23] hC
    refine va_callv (va_runV (As := [.ref h1]) (rest := []) ⟨hx, hb, hml, hown, hts⟩ (zf_X1_searchAll l dC dI h0 h1 r0_0 r0_1 1 v0_3 r0_4 r0_5 0 (-1) v0_8 v0_9 v0_10 r0_11 r0_12 r0_13 v1_0 r1_1 r1_2 r1_3 r1_4 v1_5 r1_6 r1_7 r1_8 v3_0 v3_1 v3_2 r3_3 r3_4 r3_5 v2_0 v2_1 r2_2 r2_3 r2_4 r2_5 r2_6 r2_7 r2_8 r2_9 k4 f4 k5 n5 f5 k6 n6 f6 k7 n7 f7 k8 n8 f8 k9 n9 f9 k10 f10 k11 f11 r12_0 v12_1 v12_2 k13 f13 k14 f14 k15 f15 k16 f16 k17 f17 k18 f18 r19_0 r19_1 r19_2 k20 f20 k21 f21 k22 f22 k23 f23 o_9 hqo_9 H.size) (cwV 1 hts gX1_search_X1_searchAll rfl rfl rfl zhd_X1_searchAll ⟨Nat.le_of_ble_eq_true rfl, Nat.le_of_ble_eq_true rfl⟩) ⟨fun a U g mk q => by obtain ⟨q0, n0, q1, qP, qK, qD⟩ := q; exact ⟨q0, va_Nw.same rfl rfl n0, q1, qP, va_K.moved (u := U) (U := U.calling g mk a) (Vm.Alike.refl U.vm) qK, qD⟩, zrecv hKc hPc (ci := 1) (q0 := 0) rfl rfl, fun U hU hW => ⟨rfl, va_Nw.warmM hW hn0, by rw [hU], by rw [hU]; exact hPc, va_K.moved hW.alike hKc, hDc.weaken (fun _ _ _ _ => trivial)⟩⟩ rfl rfl hl.1 rfl (lv_room (Nat.le_of_ble_eq_true rfl)) dX1_search_54 ⟨Nat.le_of_ble_eq_true rfl, Nat.le_of_ble_eq_true rfl⟩) hS (fun q _ h => hFc q h) hFc (fun u_11 t H1 locs ht hvm hw_12 hB hz1 hk1 hS => ?_)
    obtain ⟨hP1, hK1, hD1⟩ := hB
    rw [ht] at hP1
    have hK1 := va_K.moved hvm.symm hK1
    obtain ⟨hP, hD⟩ := zjn (ws' := [zV1 h0 r0_0 r0_1 1 o_9.1 (u_11 0) (u_11 2) o_9.2.1 o_9.2.2.1 o_9.2.2.2.1 v0_9 v0_10 (u_11 6) (u_11 4) (u_11 8), zV9 h1 v1_0 r1_1 r1_2 r1_3 r1_4 v1_5 r1_6 r1_7 r1_8, zV4 r1_6 v2_0 v2_1 r2_2 r2_3 r2_4 r2_5 r2_6 r2_7 r2_8 r2_9, zV2 r1_7 v3_0 v3_1 v3_2 r3_3 r3_4 r3_5, zVi r2_5 k4 14 f4, zVi (u_11 0) (u_11 1) o_9.2.2.2.2.2.1 o_9.2.2.2.2.1, zVi (u_11 2) (u_11 3) o_9.2.2.2.2.2.2.2.1 o_9.2.2.2.2.2.2.1, zVi (u_11 4) (u_11 5) o_9.2.2.2.2.2.2.2.2.2.1 o_9.2.2.2.2.2.2.2.2.1, zVi (u_11 6) (u_11 7) o_9.2.2.2.2.2.2.2.2.2.2.2.1 o_9.2.2.2.2.2.2.2.2.2.2.1, zVi (u_11 8) (u_11 9) o_9.2.2.2.2.2.2.2.2.2.2.2.2.2.1 o_9.2.2.2.2.2.2.2.2.2.2.2.2.1, zVi r3_4 k10 14 f10, zVi r0_1 k11 14 o_9.2.2.2.2.2.2.2.2.2.2.2.2.2.2.1, zV7 r0_0 r12_0 o_9.2.2.2.2.2.2.2.2.2.2.2.2.2.2.2.1 o_9.2.2.2.2.2.2.2.2.2.2.2.2.2.2.2.2.1, zVi r3_3 k13 14 f13, zVi r1_2 k14 4 f14, zVi r2_3 k15 14 f15, zVi r2_8 k16 28 f16, zVl r12_0 k17 14 o_9.2.2.2.2.2.2.2.2.2.2.2.2.2.2.2.2.2, zVi r2_9 k18 28 f18, zV6 r1_8 r19_0 r19_1 r19_2, zVl r19_0 k20 14 f20, zVl r19_1 k21 14 f21, zVi r1_3 k22 4 f22, zVi r1_4 k23 4 f23]) hP hD [0, 1, 3, 2, 4, 5, 6, 7, 8, 9, 10, 11, 12, 13, 14, 15, 16, 17, 18, 19, 20, 21, 22, 23] hC hk1 hFc hP1 hD1 [some 0, some 1, some 3, some 2, some 4, some 5, some 6, some 7, some 8, some 9, some 10, some 11, some 12, some 13, some 14, some 15, some 16, some 17, some 18, some 19, some 20, some 21, some 22, some 23] (of_decide_eq_true rfl) (of_decide_eq_true rfl) rfl rfl
    have hK := hK.app hK1
    generalize H1 = H at hP hS ⊢
    have hK : va_K (dC, dI) vwCl [(k4, .int), (k5, .int), (k6, .int), (k7, .int), (k8, .int), (k9, .int), (k10, .int), (k11, .int), (k13, .int), (k14, .int), (k15, .int), (k16, .int), (k17, .long), (k18, .int), (k20, .long), (k21, .long), (k22, .int), (k23, .int), (k4, .int), ((u_11 1), .int), ((u_11 3), .int), ((u_11 5), .int), ((u_11 7), .int), ((u_11 9), .int), (k10, .int), (k11, .int), (k13, .int), (k14, .int), (k15, .int), (k16, .int), (k17, .long), (k18, .int), (k20, .long), (k21, .long), (k22, .int), (k23, .int)] s := hK
    refine lv_iconst (v := 1) hx hb dX1_search_57 zci_1 ?_
    have ho := Option.some.inj hfn
    subst ho
    obtain ⟨hP9, hD9⟩ := zPD (ws' := [zV1 h0 r0_0 r0_1 1 o_9.1 (u_11 0) (u_11 2) o_9.2.1 o_9.2.2.1 o_9.2.2.2.1 v0_9 v0_10 (u_11 6) (u_11 4) (u_11 8), zV9 h1 v1_0 r1_1 r1_2 r1_3 r1_4 v1_5 r1_6 r1_7 r1_8, zV4 r1_6 v2_0 v2_1 r2_2 r2_3 r2_4 r2_5 r2_6 r2_7 r2_8 r2_9, zV2 r1_7 v3_0 v3_1 v3_2 r3_3 r3_4 r3_5, zVi r2_5 k4 14 f4, zVi (u_11 0) (u_11 1) o_9.2.2.2.2.2.1 o_9.2.2.2.2.1, zVi (u_11 2) (u_11 3) o_9.2.2.2.2.2.2.2.1 o_9.2.2.2.2.2.2.1, zVi (u_11 4) (u_11 5) o_9.2.2.2.2.2.2.2.2.2.1 o_9.2.2.2.2.2.2.2.2.1, zVi (u_11 6) (u_11 7) o_9.2.2.2.2.2.2.2.2.2.2.2.1 o_9.2.2.2.2.2.2.2.2.2.2.1, zVi (u_11 8) (u_11 9) o_9.2.2.2.2.2.2.2.2.2.2.2.2.2.1 o_9.2.2.2.2.2.2.2.2.2.2.2.2.1, zVi r3_4 k10 14 f10, zVi r0_1 k11 14 o_9.2.2.2.2.2.2.2.2.2.2.2.2.2.2.1, zV7 r0_0 r12_0 o_9.2.2.2.2.2.2.2.2.2.2.2.2.2.2.2.1 o_9.2.2.2.2.2.2.2.2.2.2.2.2.2.2.2.2.1, zVi r3_3 k13 14 f13, zVi r1_2 k14 4 f14, zVi r2_3 k15 14 f15, zVi r2_8 k16 28 f16, zVl r12_0 k17 14 o_9.2.2.2.2.2.2.2.2.2.2.2.2.2.2.2.2.2, zVi r2_9 k18 28 f18, zV6 r1_8 r19_0 r19_1 r19_2, zVl r19_0 k20 14 f20, zVl r19_1 k21 14 f21, zVi r1_3 k22 4 f22, zVi r1_4 k23 4 f23]) hP hD [0, 1, 2, 3, 4, 5, 6, 7, 8, 9, 10, 11, 12, 13, 14, 15, 16, 17, 18, 19, 20, 21, 22, 23] (of_decide_eq_true rfl) rfl
    have hK9 := hK.sub (tys' := [(k4, .int), ((u_11 1), .int), ((u_11 3), .int), ((u_11 5), .int), ((u_11 7), .int), ((u_11 9), .int), (k10, .int), (k11, .int), (k13, .int), (k14, .int), (k15, .int), (k16, .int), (k17, .long), (k18, .int), (k20, .long), (k21, .long), (k22, .int), (k23, .int)]) [0, 19, 20, 21, 22, 23, 6, 7, 8, 9, 10, 11, 12, 13, 14, 15, 16, 17] rfl
    refine W.widen (k := zc v0_2 (1 : Int32) 5) (n := zc v0_2 (1 : Int32) 18432) (zc_le c_3 5) (zc_le c_3 18432) ?_
    rw [← hQ]
    exact W.zret (v := 1) hx hb hr rfl (fun t ht hW => ⟨⟨1, (fun k => ([(u_11 0), (u_11 1), (u_11 2), (u_11 3), (u_11 4), (u_11 5), (u_11 6), (u_11 7), (u_11 8), (u_11 9)] : List Nat).getD k 0), rfl, ⟨rfl, zB1⟩, by rw [ht]; exact hP9, va_K.moved hW.alike hK9, hD9⟩, hS.F ht⟩) hS.2.2 dX1_search_58
  have hfn := (if_neg c_2).symm.trans hfn
  refine lv_iconst (v := 0) hx hb dX1_search_21 zci_0 ?_
  have ho := Option.some.inj hfn
  subst ho
  obtain ⟨hP9, hD9⟩ := zPD (ws' := [zV1 h0 r0_0 r0_1 v0_2 v0_3 r0_4 r0_5 v0_6 v0_7 v0_8 v0_9 v0_10 r0_11 r0_12 r0_13, zV9 h1 v1_0 r1_1 r1_2 r1_3 r1_4 v1_5 r1_6 r1_7 r1_8, zV4 r1_6 v2_0 v2_1 r2_2 r2_3 r2_4 r2_5 r2_6 r2_7 r2_8 r2_9, zV2 r1_7 v3_0 v3_1 v3_2 r3_3 r3_4 r3_5, zVi r2_5 k4 14 f4, zVi r0_4 k5 n5 f5, zVi r0_5 k6 n6 f6, zVi r0_12 k7 n7 f7, zVi r0_11 k8 n8 f8, zVi r0_13 k9 n9 f9, zVi r3_4 k10 14 f10, zVi r0_1 k11 14 f11, zV7 r0_0 r12_0 v12_1 v12_2, zVi r3_3 k13 14 f13, zVi r1_2 k14 4 f14, zVi r2_3 k15 14 f15, zVi r2_8 k16 28 f16, zVl r12_0 k17 14 f17, zVi r2_9 k18 28 f18, zV6 r1_8 r19_0 r19_1 r19_2, zVl r19_0 k20 14 f20, zVl r19_1 k21 14 f21, zVi r1_3 k22 4 f22, zVi r1_4 k23 4 f23]) hP hD [0, 1, 2, 3, 4, 5, 6, 7, 8, 9, 10, 11, 12, 13, 14, 15, 16, 17, 18, 19, 20, 21, 22, 23] (of_decide_eq_true rfl) rfl
  have hK9 := hK.sub (tys' := [(k4, .int), (k5, .int), (k6, .int), (k7, .int), (k8, .int), (k9, .int), (k10, .int), (k11, .int), (k13, .int), (k14, .int), (k15, .int), (k16, .int), (k17, .long), (k18, .int), (k20, .long), (k21, .long), (k22, .int), (k23, .int)]) [0, 1, 2, 3, 4, 5, 6, 7, 8, 9, 10, 11, 12, 13, 14, 15, 16, 17] rfl
  refine W.widen (k := zc v0_2 v0_2 5) (n := zc v0_2 v0_2 18432) (Nat.zero_le _) (Nat.zero_le _) ?_
  rw [← hQ]
  exact W.zret (v := 0) hx hb hr rfl (fun t ht hW => ⟨⟨0, (fun k => ([r0_4, k5, r0_5, k6, r0_12, k7, r0_11, k8, r0_13, k9] : List Nat).getD k 0), rfl, ⟨rfl, zB0⟩, by rw [ht]; exact hP9, va_K.moved hW.alike hK9, hD9⟩, hS.F ht⟩) hS.2.2 dX1_search_22
theorem zn_X1_errorAt_X1 : ∀ w ∈ wsX10, w ∈ wsX1_errorAt := fun _ h => List.mem_cons_of_mem _ (List.mem_append_right _ h)
theorem zw_X1_errorAt_228 : Cond.fieldLink RX1 86 "ShortEnough$FullSearch" "answers" "I" ∈ wsX1_errorAt := List.mem_of_getElem? (i := 1) (by decide +kernel)
theorem zw_X1_errorAt_229 : Cond.constant RX1 127 (1000001) ∈ wsX1_errorAt := List.mem_of_getElem? (i := 3) (by decide +kernel)
theorem zw_X1_errorAt_230 : Cond.fieldLink RX1 25 "ShortEnough$FullSearch" "errors" "[I" ∈ wsX1_errorAt := List.mem_of_getElem? (i := 2) (by decide +kernel)
set_option maxHeartbeats 4000000 in
set_option maxRecDepth 100000 in
theorem zf_X1_errorAt (l : Launch) (dC : Nat → ClassId) (dI : Nat → Nat → Nat) (h0 : Nat) (p1 : Int32) (p2 : Int32) (r0_0 : Nat) (r0_1 : Nat) (v0_2 : Int32) (v0_3 : Int32) (r0_4 : Nat) (r0_5 : Nat) (v0_6 : Int32) (v0_7 : Int32) (v0_8 : Int32) (v0_9 : Int32) (v0_10 : Int32) (r0_11 : Nat) (r0_12 : Nat) (r0_13 : Nat) (k1 : Nat) (n1 : Nat) (f1 : Nat → Int32) (o : Int32) (hfn : fn_X1_errorAt p1 p2 v0_3 n1 f1 = some o) (sz : Nat) : zMi l yX1_errorAt wsX1_errorAt ({ frames := 0, cells := 0, slots := 0, locals := 0 }) (dC, dI) vwCl [.ref h0, .int p1, .int p2] [zV1 h0 r0_0 r0_1 v0_2 v0_3 r0_4 r0_5 v0_6 v0_7 v0_8 v0_9 v0_10 r0_11 r0_12 r0_13, zVi r0_5 k1 n1 f1] [(k1, .int)] (fun r _ => r = o) [zV1 h0 r0_0 r0_1 v0_2 v0_3 r0_4 r0_5 v0_6 v0_7 v0_8 v0_9 v0_10 r0_11 r0_12 r0_13, zVi r0_5 k1 n1 f1] [(k1, .int)] sz := by
  refine zgoi (cc := cX1_errorAt) (maxL := 4) (ret := (some .int)) (C0 := RX1) (lv0 := [(0, .ref h0), (1, .int p1), (2, .int p2)]) zpl_X1 rfl rfl rfl (Nat.le_of_ble_eq_true rfl) ?_
  intro p e s m below meth c A ls Q hx hb hr hts hown hlocks hml hP hK hD hA hS hl hQ
  unfold fn_X1_errorAt at hfn
  refine lv_iload_n hx hb dX1_errorAt_0 rfl (lv_at hl 1 rfl) ?_
  refine lv_aload_n hx hb dX1_errorAt_1 rfl (lv_at hl 0 rfl) ?_
  refine va_get (D := (dC, dI)) (ci := 1) (v := .int v0_3) (C := RX1) (T := TX1) (N := 14) hx hb hts zn_X1_errorAt_X1 hown hK hP 0 rfl rfl 3 (of_decide_eq_true rfl) (hts (.fieldLink RX1 86 "ShortEnough$FullSearch" "answers" "I") zw_X1_errorAt_228) (fun _ h9 => h9) rfl dX1_errorAt_2 ?_
  refine lv_imul hx hb dX1_errorAt_5 ?_
  refine lv_iload_n hx hb dX1_errorAt_6 rfl (lv_at hl 2 rfl) ?_
  refine lv_iadd hx hb dX1_errorAt_7 ?_
  refine lv_istore_n (lv' := [(3, .int ((p1 * v0_3) + p2)), (0, .ref h0), (1, .int p1), (2, .int p2)]) hx hb dX1_errorAt_8 rfl hl (of_decide_eq_true rfl) rfl (fun ls hl => ?_)
  refine lv_iload_n hx hb dX1_errorAt_9 rfl (lv_at hl 0 rfl) ?_
  refine lv_if_lt (tgt := 31) hx hb dX1_errorAt_10 (of_decide_eq_true rfl) (fun c_1 => ?_) (fun c_1 => ?_)
  · have hfn := (if_pos c_1).symm.trans hfn
    refine lv_ldc (v := 1000001) hx hb hown (hts (.constant RX1 127 (1000001)) zw_X1_errorAt_229) dX1_errorAt_31 ?_
    have ho := Option.some.inj hfn
    subst ho
    exact zri hx hb hr hK hP hD hS hQ rfl hlocks dX1_errorAt_33
  have hfn := (if_neg c_1).symm.trans hfn
  refine lv_iload_n hx hb dX1_errorAt_13 rfl (lv_at hl 0 rfl) ?_
  refine lv_aload_n hx hb dX1_errorAt_14 rfl (lv_at hl 1 rfl) ?_
  refine va_get (D := (dC, dI)) (ci := 1) (v := .ref r0_5) (C := RX1) (T := TX1) (N := 14) hx hb hts zn_X1_errorAt_X1 hown hK hP 0 rfl rfl 5 (of_decide_eq_true rfl) (hts (.fieldLink RX1 25 "ShortEnough$FullSearch" "errors" "[I") zw_X1_errorAt_230) (fun _ h9 => h9) rfl dX1_errorAt_15 ?_
  refine va_alen (v := (Int32.ofNat n1)) hx hb hK hP 1 0 rfl rfl rfl dX1_errorAt_18 ?_
  refine lv_icmp_ge (tgt := 31) hx hb dX1_errorAt_19 (of_decide_eq_true rfl) (fun c_2 => ?_) (fun c_2 => ?_)
  · have hfn := (if_pos c_2).symm.trans hfn
    refine lv_ldc (v := 1000001) hx hb hown (hts (.constant RX1 127 (1000001)) zw_X1_errorAt_229) dX1_errorAt_31 ?_
    have ho := Option.some.inj hfn
    subst ho
    exact zri hx hb hr hK hP hD hS hQ rfl hlocks dX1_errorAt_33
  have hfn := (if_neg c_2).symm.trans hfn
  refine lv_aload_n hx hb dX1_errorAt_22 rfl (lv_at hl 1 rfl) ?_
  refine va_get (D := (dC, dI)) (ci := 1) (v := .ref r0_5) (C := RX1) (T := TX1) (N := 14) hx hb hts zn_X1_errorAt_X1 hown hK hP 0 rfl rfl 5 (of_decide_eq_true rfl) (hts (.fieldLink RX1 25 "ShortEnough$FullSearch" "errors" "[I") zw_X1_errorAt_230) (fun _ h9 => h9) rfl dX1_errorAt_23 ?_
  refine lv_iload_n hx hb dX1_errorAt_26 rfl (lv_at hl 0 rfl) ?_
  obtain ⟨h_3, hfn⟩ := zg_s hfn
  refine va_iald hx hb hK hP 1 0 rfl rfl h_3 dX1_errorAt_27 ?_
  refine lv_goto (tgt := 33) hx hb dX1_errorAt_28 (of_decide_eq_true rfl) ?_
  have ho := Option.some.inj hfn
  subst ho
  exact zri hx hb hr hK hP hD hS hQ rfl hlocks dX1_errorAt_33
theorem zn_X1_leastWithin_X9 : ∀ w ∈ wsX90, w ∈ wsX1_leastWithin := fun _ h => List.mem_cons_of_mem _ (List.mem_append_left _ (List.mem_append_left _ (List.mem_append_right _ h)))
theorem zw_X1_leastWithin_232 : Cond.fieldLink RX1 48 "ShortEnough$Task" "numbers" "LShortEnough$Numbers;" ∈ wsX1_leastWithin := List.mem_of_getElem? (i := 1) (by decide +kernel)
theorem zw_X1_leastWithin_233 : Cond.constantLong RX1 128 (-1000000000000000) ∈ wsX1_leastWithin := List.mem_of_getElem? (i := 2) (by decide +kernel)
theorem zn_X1_leastWithin_X1 : ∀ w ∈ wsX10, w ∈ wsX1_leastWithin := fun _ h => List.mem_cons_of_mem _ (List.mem_append_left _ (List.mem_append_right _ h))
theorem zw_X1_leastWithin_235 : Cond.fieldLink RX1 68 "ShortEnough$FullSearch" "many" "I" ∈ wsX1_leastWithin := List.mem_of_getElem? (i := 3) (by decide +kernel)
theorem zw_X1_leastWithin_236 : Cond.fieldLink RX1 22 "ShortEnough$FullSearch" "prices" "[I" ∈ wsX1_leastWithin := List.mem_of_getElem? (i := 4) (by decide +kernel)
set_option maxHeartbeats 4000000 in
set_option maxRecDepth 100000 in
theorem zf_X1_leastWithin (l : Launch) (dC : Nat → ClassId) (dI : Nat → Nat → Nat) (h0 : Nat) (h1 : Nat) (p2 : Int32) (p3 : Int32) (r0_0 : Nat) (r0_1 : Nat) (v0_2 : Int32) (v0_3 : Int32) (r0_4 : Nat) (r0_5 : Nat) (v0_6 : Int32) (v0_7 : Int32) (v0_8 : Int32) (v0_9 : Int32) (v0_10 : Int32) (r0_11 : Nat) (r0_12 : Nat) (r0_13 : Nat) (v1_0 : Int32) (r1_1 : Nat) (r1_2 : Nat) (r1_3 : Nat) (r1_4 : Nat) (v1_5 : Int32) (r1_6 : Nat) (r1_7 : Nat) (r1_8 : Nat) (v2_0 : Int32) (v2_1 : Int32) (r2_2 : Nat) (r2_3 : Nat) (r2_4 : Nat) (r2_5 : Nat) (r2_6 : Nat) (r2_7 : Nat) (r2_8 : Nat) (r2_9 : Nat) (k3 : Nat) (f3 : Nat → Int32) (k4 : Nat) (n4 : Nat) (f4 : Nat → Int32) (k5 : Nat) (n5 : Nat) (f5 : Nat → Int32) (o : Int64) (hfn : fn_X1_leastWithin p2 p3 v0_3 v0_6 v2_0 f3 n4 f4 n5 f5 = some o) (sz : Nat) : zMl l yX1_leastWithin wsX1_leastWithin ({ frames := 1, cells := 0, slots := 0, locals := 23 }) (dC, dI) vwCl [.ref h0, .ref h1, .int p2, .int p3] [zV1 h0 r0_0 r0_1 v0_2 v0_3 r0_4 r0_5 v0_6 v0_7 v0_8 v0_9 v0_10 r0_11 r0_12 r0_13, zV9 h1 v1_0 r1_1 r1_2 r1_3 r1_4 v1_5 r1_6 r1_7 r1_8, zV4 r1_6 v2_0 v2_1 r2_2 r2_3 r2_4 r2_5 r2_6 r2_7 r2_8 r2_9, zVi r2_5 k3 14 f3, zVi r0_4 k4 n4 f4, zVi r0_5 k5 n5 f5] [(k3, .int), (k4, .int), (k5, .int)] (fun r _ => r = o) [zV1 h0 r0_0 r0_1 v0_2 v0_3 r0_4 r0_5 v0_6 v0_7 v0_8 v0_9 v0_10 r0_11 r0_12 r0_13, zV9 h1 v1_0 r1_1 r1_2 r1_3 r1_4 v1_5 r1_6 r1_7 r1_8, zV4 r1_6 v2_0 v2_1 r2_2 r2_3 r2_4 r2_5 r2_6 r2_7 r2_8 r2_9, zVi r2_5 k3 14 f3, zVi r0_4 k4 n4 f4, zVi r0_5 k5 n5 f5] [(k3, .int), (k4, .int), (k5, .int)] sz := by
  refine zgol (cc := cX1_leastWithin) (maxL := 8) (ret := (some .long)) (C0 := RX1) (lv0 := [(0, .ref h0), (1, .ref h1), (2, .int p2), (3, .int p3)]) zpl_X1 rfl rfl rfl (Nat.le_of_ble_eq_true rfl) ?_
  intro p e s m below meth c A ls Q hx hb hr hts hown hlocks hml hP hK hD hA hS hl hQ
  unfold fn_X1_leastWithin at hfn
  refine lv_aload_n hx hb dX1_leastWithin_0 rfl (lv_at hl 1 rfl) ?_
  refine va_get (D := (dC, dI)) (ci := 9) (v := .ref r1_6) (C := RX9) (T := TX9) (N := 9) hx hb hts zn_X1_leastWithin_X9 hown hK hP 1 rfl rfl 6 (of_decide_eq_true rfl) (hts (.fieldLink RX1 48 "ShortEnough$Task" "numbers" "LShortEnough$Numbers;") zw_X1_leastWithin_232) (fun _ h9 => h9) rfl dX1_leastWithin_1 ?_
  refine lv_iload_n hx hb dX1_leastWithin_4 rfl (lv_at hl 2 rfl) ?_
  obtain ⟨o_1, hqo_1, hfn⟩ := zb_s hfn
  refine zcVi (ci := 4) (rest := []) (pc' := 8) (ws' := [zV1 h0 r0_0 r0_1 v0_2 v0_3 r0_4 r0_5 v0_6 v0_7 v0_8 v0_9 v0_10 r0_11 r0_12 r0_13, zV9 h1 v1_0 r1_1 r1_2 r1_3 r1_4 v1_5 r1_6 r1_7 r1_8, zV4 r1_6 v2_0 v2_1 r2_2 r2_3 r2_4 r2_5 r2_6 r2_7 r2_8 r2_9, zVi r2_5 k3 14 f3, zVi r0_4 k4 n4 f4, zVi r0_5 k5 n5 f5]) hP hK hD hS hA ⟨hx, hb, hml, hown, hts⟩ (zf_X4_countAnswers l dC dI r1_6 p2 v2_0 v2_1 r2_2 r2_3 r2_4 r2_5 r2_6 r2_7 r2_8 r2_9 k3 f3 o_1 hqo_1 s.heap.size) (cwV 1 hts gX1_leastWithin_X4_countAnswers rfl rfl rfl zhd_X4_countAnswers ⟨Nat.le_of_ble_eq_true rfl, Nat.le_of_ble_eq_true rfl⟩) [2, 3] rfl (of_decide_eq_true rfl) [0] rfl rfl rfl rfl hl.1 rfl (Nat.le_of_ble_eq_true rfl) dX1_leastWithin_5 ⟨Nat.le_of_ble_eq_true rfl, Nat.le_of_ble_eq_true rfl⟩ [none, none, some 0, some 1] (of_decide_eq_true rfl) (of_decide_eq_true rfl) rfl rfl rfl (fun H locs hP hD hS => ?_)
  refine lv_istore (lv' := [(4, .int o_1), (0, .ref h0), (1, .ref h1), (2, .int p2), (3, .int p3)]) hx hb dX1_leastWithin_8 hl (of_decide_eq_true rfl) rfl (fun ls hl => ?_)
  refine lv_ldc2 (v := (-1000000000000000)) hx hb hown (hts (.constantLong RX1 128 (-1000000000000000)) zw_X1_leastWithin_233) dX1_leastWithin_10 ?_
  refine lv_lstore (lv' := [(5, .long (-1000000000000000)), (4, .int o_1), (0, .ref h0), (1, .ref h1), (2, .int p2), (3, .int p3)]) hx hb dX1_leastWithin_13 hl (of_decide_eq_true rfl) rfl (fun ls hl => ?_)
  refine lv_iconst (v := 0) hx hb dX1_leastWithin_15 zci_0 ?_
  refine lv_istore (lv' := [(7, .int 0), (5, .long (-1000000000000000)), (4, .int o_1), (0, .ref h0), (1, .ref h1), (2, .int p2), (3, .int p3)]) hx hb dX1_leastWithin_16 hl (of_decide_eq_true rfl) rfl (fun ls hl => ?_)
  obtain ⟨bd_5, ebd_5, hfn⟩ := zl_g hfn
  have lp_5 : ∀ (n : Nat) (s_5 : Int64 × Int32) (H : Heap) (locs : List Loc) (ls : Array Slot), zl bd_5 n s_5 = some o → va_P (dC, dI) vwCl [zV1 h0 r0_0 r0_1 v0_2 v0_3 r0_4 r0_5 v0_6 v0_7 v0_8 v0_9 v0_10 r0_11 r0_12 r0_13, zV9 h1 v1_0 r1_1 r1_2 r1_3 r1_4 v1_5 r1_6 r1_7 r1_8, zV4 r1_6 v2_0 v2_1 r2_2 r2_3 r2_4 r2_5 r2_6 r2_7 r2_8 r2_9, zVi r2_5 k3 14 f3, zVi r0_4 k4 n4 f4, zVi r0_5 k5 n5 f5] H → va_D A [zV1 h0 r0_0 r0_1 v0_2 v0_3 r0_4 r0_5 v0_6 v0_7 v0_8 v0_9 v0_10 r0_11 r0_12 r0_13, zV9 h1 v1_0 r1_1 r1_2 r1_3 r1_4 v1_5 r1_6 r1_7 r1_8, zV4 r1_6 v2_0 v2_1 r2_2 r2_3 r2_4 r2_5 r2_6 r2_7 r2_8 r2_9, zVi r2_5 k3 14 f3, zVi r0_4 k4 n4 f4, zVi r0_5 k5 n5 f5] → va_S A s.heap H locs → lv_has ls 8 [(7, .int s_5.2), (5, .long s_5.1), (4, .int o_1), (0, .ref h0), (3, .int p3)] → W p l e (headSpec wsX1_leastWithin ({ frames := 1, cells := 0, slots := 0, locals := 23 })).room s m ([.ref h0, .ref h1, .int p2, .int p3] : List Value).toArray below meth c H locs 0 0 Q (F0 m 18 ls []) := by
    intro n
    induction n with
    | zero => exact fun _ _ _ _ hfn => (zl_0 hfn).elim
    | succ n ih_5 =>
      intro s_5 H locs ls hfn hP hD hS hl
      have hfn := zl_s ebd_5 hfn
      refine lv_iload hx hb dX1_leastWithin_18 (lv_at hl 0 rfl) ?_
      refine lv_aload_n hx hb dX1_leastWithin_20 rfl (lv_at hl 3 rfl) ?_
      refine va_get (D := (dC, dI)) (ci := 1) (v := .int v0_6) (C := RX1) (T := TX1) (N := 14) hx hb hts zn_X1_leastWithin_X1 hown hK hP 0 rfl rfl 6 (of_decide_eq_true rfl) (hts (.fieldLink RX1 68 "ShortEnough$FullSearch" "many" "I") zw_X1_leastWithin_235) (fun _ h9 => h9) rfl dX1_leastWithin_21 ?_
      refine lv_icmp_ge (tgt := 79) hx hb dX1_leastWithin_24 (of_decide_eq_true rfl) (fun c_6 => ?_) (fun c_6 => ?_)
      · have hfn := (if_pos c_6).symm.trans hfn
        refine lv_lload hx hb dX1_leastWithin_79 (lv_at hl 1 rfl) ?_
        have ho := Option.some.inj hfn
        subst ho
        exact zrl hx hb hr hK hP hD hS hQ rfl hlocks dX1_leastWithin_81
      have hfn := (if_neg c_6).symm.trans hfn
      refine lv_aload_n hx hb dX1_leastWithin_27 rfl (lv_at hl 3 rfl) ?_
      refine va_get (D := (dC, dI)) (ci := 1) (v := .ref r0_4) (C := RX1) (T := TX1) (N := 14) hx hb hts zn_X1_leastWithin_X1 hown hK hP 0 rfl rfl 4 (of_decide_eq_true rfl) (hts (.fieldLink RX1 22 "ShortEnough$FullSearch" "prices" "[I") zw_X1_leastWithin_236) (fun _ h9 => h9) rfl dX1_leastWithin_28 ?_
      refine lv_iload hx hb dX1_leastWithin_31 (lv_at hl 0 rfl) ?_
      obtain ⟨h_7, hfn⟩ := zg_s hfn
      refine va_iald hx hb hK hP 4 1 rfl rfl h_7 dX1_leastWithin_33 ?_
      refine lv_iload_n hx hb dX1_leastWithin_34 rfl (lv_at hl 4 rfl) ?_
      refine lv_icmp_gt (tgt := 73) hx hb dX1_leastWithin_35 (of_decide_eq_true rfl) (fun c_8 => ?_) (fun c_8 => ?_)
      · have hfn := (if_pos c_8).symm.trans hfn
        refine lv_iinc (v := (s_5.2 + 1)) (lv' := [(7, .int (s_5.2 + 1)), (5, .long s_5.1), (4, .int o_1), (0, .ref h0), (3, .int p3)]) hx hb dX1_leastWithin_73 hl (k := 0) rfl rfl (of_decide_eq_true rfl) rfl (fun ls hl => ?_)
        refine lv_goto (tgt := 18) hx hb dX1_leastWithin_76 (of_decide_eq_true rfl) ?_
        exact ih_5 (s_5.1, (s_5.2 + 1)) H locs ls hfn hP hD hS (lv_sub hl [0, 1, 2, 3, 4] rfl)
      have hfn := (if_neg c_8).symm.trans hfn
      refine lv_lload hx hb dX1_leastWithin_38 (lv_at hl 1 rfl) ?_
      refine lv_ldc2 (v := (-1000000000000000)) hx hb hown (hts (.constantLong RX1 128 (-1000000000000000)) zw_X1_leastWithin_233) dX1_leastWithin_40 ?_
      refine W.lcmp hx hb dX1_leastWithin_43 ?_
      refine lv_if_eq (tgt := 62) hx hb dX1_leastWithin_44 (of_decide_eq_true rfl) (fun c_9 => ?_) (fun c_9 => ?_)
      · have hfn := (if_pos c_9).symm.trans hfn
        refine lv_aload_n hx hb dX1_leastWithin_62 rfl (lv_at hl 3 rfl) ?_
        refine lv_iload hx hb dX1_leastWithin_63 (lv_at hl 0 rfl) ?_
        refine lv_iload hx hb dX1_leastWithin_65 (lv_at hl 2 rfl) ?_
        obtain ⟨o_10, hqo_10, hfn⟩ := zb_s hfn
        refine zcVi (ci := 1) (rest := []) (pc' := 70) (ws' := [zV1 h0 r0_0 r0_1 v0_2 v0_3 r0_4 r0_5 v0_6 v0_7 v0_8 v0_9 v0_10 r0_11 r0_12 r0_13, zV9 h1 v1_0 r1_1 r1_2 r1_3 r1_4 v1_5 r1_6 r1_7 r1_8, zV4 r1_6 v2_0 v2_1 r2_2 r2_3 r2_4 r2_5 r2_6 r2_7 r2_8 r2_9, zVi r2_5 k3 14 f3, zVi r0_4 k4 n4 f4, zVi r0_5 k5 n5 f5]) hP hK hD hS hA ⟨hx, hb, hml, hown, hts⟩ (zf_X1_errorAt l dC dI h0 s_5.2 o_1 r0_0 r0_1 v0_2 v0_3 r0_4 r0_5 v0_6 v0_7 v0_8 v0_9 v0_10 r0_11 r0_12 r0_13 k5 n5 f5 o_10 hqo_10 H.size) (cwV 2 hts gX1_leastWithin_X1_errorAt rfl rfl rfl zhd_X1_errorAt ⟨Nat.le_of_ble_eq_true rfl, Nat.le_of_ble_eq_true rfl⟩) [0, 5] rfl (of_decide_eq_true rfl) [2] rfl rfl rfl rfl hl.1 rfl (Nat.le_of_ble_eq_true rfl) dX1_leastWithin_67 ⟨Nat.le_of_ble_eq_true rfl, Nat.le_of_ble_eq_true rfl⟩ [some 0, none, none, none, none, some 1] (of_decide_eq_true rfl) (of_decide_eq_true rfl) rfl rfl rfl (fun H locs hP hD hS => ?_)
        refine lv_i2l (v := o_10.toInt64) hx hb dX1_leastWithin_70 rfl ?_
        refine lv_lstore (lv' := [(5, .long o_10.toInt64), (7, .int s_5.2), (4, .int o_1), (0, .ref h0), (3, .int p3)]) hx hb dX1_leastWithin_71 hl (of_decide_eq_true rfl) rfl (fun ls hl => ?_)
        refine lv_iinc (v := (s_5.2 + 1)) (lv' := [(7, .int (s_5.2 + 1)), (5, .long o_10.toInt64), (4, .int o_1), (0, .ref h0), (3, .int p3)]) hx hb dX1_leastWithin_73 hl (k := 1) rfl rfl (of_decide_eq_true rfl) rfl (fun ls hl => ?_)
        refine lv_goto (tgt := 18) hx hb dX1_leastWithin_76 (of_decide_eq_true rfl) ?_
        exact ih_5 (o_10.toInt64, (s_5.2 + 1)) H locs ls hfn hP hD hS (lv_sub hl [0, 1, 2, 3, 4] rfl)
      have hfn := (if_neg c_9).symm.trans hfn
      refine lv_aload_n hx hb dX1_leastWithin_47 rfl (lv_at hl 3 rfl) ?_
      refine lv_iload hx hb dX1_leastWithin_48 (lv_at hl 0 rfl) ?_
      refine lv_iload hx hb dX1_leastWithin_50 (lv_at hl 2 rfl) ?_
      obtain ⟨o_14, hqo_14, hfn⟩ := zb_s hfn
      refine zcVi (ci := 1) (rest := []) (pc' := 55) (ws' := [zV1 h0 r0_0 r0_1 v0_2 v0_3 r0_4 r0_5 v0_6 v0_7 v0_8 v0_9 v0_10 r0_11 r0_12 r0_13, zV9 h1 v1_0 r1_1 r1_2 r1_3 r1_4 v1_5 r1_6 r1_7 r1_8, zV4 r1_6 v2_0 v2_1 r2_2 r2_3 r2_4 r2_5 r2_6 r2_7 r2_8 r2_9, zVi r2_5 k3 14 f3, zVi r0_4 k4 n4 f4, zVi r0_5 k5 n5 f5]) hP hK hD hS hA ⟨hx, hb, hml, hown, hts⟩ (zf_X1_errorAt l dC dI h0 s_5.2 o_1 r0_0 r0_1 v0_2 v0_3 r0_4 r0_5 v0_6 v0_7 v0_8 v0_9 v0_10 r0_11 r0_12 r0_13 k5 n5 f5 o_14 hqo_14 H.size) (cwV 2 hts gX1_leastWithin_X1_errorAt rfl rfl rfl zhd_X1_errorAt ⟨Nat.le_of_ble_eq_true rfl, Nat.le_of_ble_eq_true rfl⟩) [0, 5] rfl (of_decide_eq_true rfl) [2] rfl rfl rfl rfl hl.1 rfl (Nat.le_of_ble_eq_true rfl) dX1_leastWithin_52 ⟨Nat.le_of_ble_eq_true rfl, Nat.le_of_ble_eq_true rfl⟩ [some 0, none, none, none, none, some 1] (of_decide_eq_true rfl) (of_decide_eq_true rfl) rfl rfl rfl (fun H locs hP hD hS => ?_)
      refine lv_i2l (v := o_14.toInt64) hx hb dX1_leastWithin_55 rfl ?_
      refine lv_lload hx hb dX1_leastWithin_56 (lv_at hl 1 rfl) ?_
      refine W.lcmp hx hb dX1_leastWithin_58 ?_
      refine lv_if_ge (tgt := 73) hx hb dX1_leastWithin_59 (of_decide_eq_true rfl) (fun c_18 => ?_) (fun c_18 => ?_)
      · have hfn := (if_pos c_18).symm.trans hfn
        refine lv_iinc (v := (s_5.2 + 1)) (lv' := [(7, .int (s_5.2 + 1)), (5, .long s_5.1), (4, .int o_1), (0, .ref h0), (3, .int p3)]) hx hb dX1_leastWithin_73 hl (k := 0) rfl rfl (of_decide_eq_true rfl) rfl (fun ls hl => ?_)
        refine lv_goto (tgt := 18) hx hb dX1_leastWithin_76 (of_decide_eq_true rfl) ?_
        exact ih_5 (s_5.1, (s_5.2 + 1)) H locs ls hfn hP hD hS (lv_sub hl [0, 1, 2, 3, 4] rfl)
      have hfn := (if_neg c_18).symm.trans hfn
      refine lv_aload_n hx hb dX1_leastWithin_62 rfl (lv_at hl 3 rfl) ?_
      refine lv_iload hx hb dX1_leastWithin_63 (lv_at hl 0 rfl) ?_
      refine lv_iload hx hb dX1_leastWithin_65 (lv_at hl 2 rfl) ?_
      obtain ⟨o_19, hqo_19, hfn⟩ := zb_s hfn
      refine zcVi (ci := 1) (rest := []) (pc' := 70) (ws' := [zV1 h0 r0_0 r0_1 v0_2 v0_3 r0_4 r0_5 v0_6 v0_7 v0_8 v0_9 v0_10 r0_11 r0_12 r0_13, zV9 h1 v1_0 r1_1 r1_2 r1_3 r1_4 v1_5 r1_6 r1_7 r1_8, zV4 r1_6 v2_0 v2_1 r2_2 r2_3 r2_4 r2_5 r2_6 r2_7 r2_8 r2_9, zVi r2_5 k3 14 f3, zVi r0_4 k4 n4 f4, zVi r0_5 k5 n5 f5]) hP hK hD hS hA ⟨hx, hb, hml, hown, hts⟩ (zf_X1_errorAt l dC dI h0 s_5.2 o_1 r0_0 r0_1 v0_2 v0_3 r0_4 r0_5 v0_6 v0_7 v0_8 v0_9 v0_10 r0_11 r0_12 r0_13 k5 n5 f5 o_19 hqo_19 H.size) (cwV 2 hts gX1_leastWithin_X1_errorAt rfl rfl rfl zhd_X1_errorAt ⟨Nat.le_of_ble_eq_true rfl, Nat.le_of_ble_eq_true rfl⟩) [0, 5] rfl (of_decide_eq_true rfl) [2] rfl rfl rfl rfl hl.1 rfl (Nat.le_of_ble_eq_true rfl) dX1_leastWithin_67 ⟨Nat.le_of_ble_eq_true rfl, Nat.le_of_ble_eq_true rfl⟩ [some 0, none, none, none, none, some 1] (of_decide_eq_true rfl) (of_decide_eq_true rfl) rfl rfl rfl (fun H locs hP hD hS => ?_)
      refine lv_i2l (v := o_19.toInt64) hx hb dX1_leastWithin_70 rfl ?_
      refine lv_lstore (lv' := [(5, .long o_19.toInt64), (7, .int s_5.2), (4, .int o_1), (0, .ref h0), (3, .int p3)]) hx hb dX1_leastWithin_71 hl (of_decide_eq_true rfl) rfl (fun ls hl => ?_)
      refine lv_iinc (v := (s_5.2 + 1)) (lv' := [(7, .int (s_5.2 + 1)), (5, .long o_19.toInt64), (4, .int o_1), (0, .ref h0), (3, .int p3)]) hx hb dX1_leastWithin_73 hl (k := 1) rfl rfl (of_decide_eq_true rfl) rfl (fun ls hl => ?_)
      refine lv_goto (tgt := 18) hx hb dX1_leastWithin_76 (of_decide_eq_true rfl) ?_
      exact ih_5 (o_19.toInt64, (s_5.2 + 1)) H locs ls hfn hP hD hS (lv_sub hl [0, 1, 2, 3, 4] rfl)
  exact lp_5 _ ((-1000000000000000), 0) H locs ls hfn hP hD hS (lv_sub hl [0, 1, 2, 3, 6] rfl)
theorem zn_X1_cheapestBelow_X1 : ∀ w ∈ wsX10, w ∈ wsX1_cheapestBelow := fun _ h => List.mem_cons_of_mem _ (List.mem_append_right _ h)
theorem zw_X1_cheapestBelow_245 : Cond.fieldLink RX1 68 "ShortEnough$FullSearch" "many" "I" ∈ wsX1_cheapestBelow := List.mem_of_getElem? (i := 1) (by decide +kernel)
theorem zw_X1_cheapestBelow_246 : Cond.fieldLink RX1 22 "ShortEnough$FullSearch" "prices" "[I" ∈ wsX1_cheapestBelow := List.mem_of_getElem? (i := 2) (by decide +kernel)
set_option maxHeartbeats 4000000 in
set_option maxRecDepth 100000 in
theorem zf_X1_cheapestBelow (l : Launch) (dC : Nat → ClassId) (dI : Nat → Nat → Nat) (h0 : Nat) (p1 : Int32) (p2 : Int32) (r0_0 : Nat) (r0_1 : Nat) (v0_2 : Int32) (v0_3 : Int32) (r0_4 : Nat) (r0_5 : Nat) (v0_6 : Int32) (v0_7 : Int32) (v0_8 : Int32) (v0_9 : Int32) (v0_10 : Int32) (r0_11 : Nat) (r0_12 : Nat) (r0_13 : Nat) (k1 : Nat) (n1 : Nat) (f1 : Nat → Int32) (k2 : Nat) (n2 : Nat) (f2 : Nat → Int32) (o : Int32) (hfn : fn_X1_cheapestBelow p1 p2 v0_3 v0_6 n1 f1 n2 f2 = some o) (sz : Nat) : zMi l yX1_cheapestBelow wsX1_cheapestBelow ({ frames := 1, cells := 0, slots := 0, locals := 23 }) (dC, dI) vwCl [.ref h0, .int p1, .int p2] [zV1 h0 r0_0 r0_1 v0_2 v0_3 r0_4 r0_5 v0_6 v0_7 v0_8 v0_9 v0_10 r0_11 r0_12 r0_13, zVi r0_5 k1 n1 f1, zVi r0_4 k2 n2 f2] [(k1, .int), (k2, .int)] (fun r _ => r = o) [zV1 h0 r0_0 r0_1 v0_2 v0_3 r0_4 r0_5 v0_6 v0_7 v0_8 v0_9 v0_10 r0_11 r0_12 r0_13, zVi r0_5 k1 n1 f1, zVi r0_4 k2 n2 f2] [(k1, .int), (k2, .int)] sz := by
  refine zgoi (cc := cX1_cheapestBelow) (maxL := 6) (ret := (some .int)) (C0 := RX1) (lv0 := [(0, .ref h0), (1, .int p1), (2, .int p2)]) zpl_X1 rfl rfl rfl (Nat.le_of_ble_eq_true rfl) ?_
  intro p e s m below meth c A ls Q hx hb hr hts hown hlocks hml hP hK hD hA hS hl hQ
  unfold fn_X1_cheapestBelow at hfn
  refine lv_iconst (v := (-1)) hx hb dX1_cheapestBelow_0 zci_m1 ?_
  refine lv_istore_n (lv' := [(3, .int (-1)), (0, .ref h0), (1, .int p1), (2, .int p2)]) hx hb dX1_cheapestBelow_1 rfl hl (of_decide_eq_true rfl) rfl (fun ls hl => ?_)
  refine lv_iconst (v := 0) hx hb dX1_cheapestBelow_2 zci_0 ?_
  refine lv_istore (lv' := [(4, .int 0), (3, .int (-1)), (0, .ref h0), (1, .int p1), (2, .int p2)]) hx hb dX1_cheapestBelow_3 hl (of_decide_eq_true rfl) rfl (fun ls hl => ?_)
  obtain ⟨bd_1, ebd_1, hfn⟩ := zl_g hfn
  have lp_1 : ∀ (n : Nat) (s_1 : Int32 × Int32) (H : Heap) (locs : List Loc) (ls : Array Slot), zl bd_1 n s_1 = some o → va_P (dC, dI) vwCl [zV1 h0 r0_0 r0_1 v0_2 v0_3 r0_4 r0_5 v0_6 v0_7 v0_8 v0_9 v0_10 r0_11 r0_12 r0_13, zVi r0_5 k1 n1 f1, zVi r0_4 k2 n2 f2] H → va_D A [zV1 h0 r0_0 r0_1 v0_2 v0_3 r0_4 r0_5 v0_6 v0_7 v0_8 v0_9 v0_10 r0_11 r0_12 r0_13, zVi r0_5 k1 n1 f1, zVi r0_4 k2 n2 f2] → va_S A s.heap H locs → lv_has ls 6 [(4, .int s_1.2), (3, .int s_1.1), (0, .ref h0), (1, .int p1), (2, .int p2)] → W p l e (headSpec wsX1_cheapestBelow ({ frames := 1, cells := 0, slots := 0, locals := 23 })).room s m ([.ref h0, .int p1, .int p2] : List Value).toArray below meth c H locs 0 0 Q (F0 m 5 ls []) := by
    intro n
    induction n with
    | zero => exact fun _ _ _ _ hfn => (zl_0 hfn).elim
    | succ n ih_1 =>
      intro s_1 H locs ls hfn hP hD hS hl
      have hfn := zl_s ebd_1 hfn
      refine lv_iload hx hb dX1_cheapestBelow_5 (lv_at hl 0 rfl) ?_
      refine lv_aload_n hx hb dX1_cheapestBelow_7 rfl (lv_at hl 2 rfl) ?_
      refine va_get (D := (dC, dI)) (ci := 1) (v := .int v0_6) (C := RX1) (T := TX1) (N := 14) hx hb hts zn_X1_cheapestBelow_X1 hown hK hP 0 rfl rfl 6 (of_decide_eq_true rfl) (hts (.fieldLink RX1 68 "ShortEnough$FullSearch" "many" "I") zw_X1_cheapestBelow_245) (fun _ h9 => h9) rfl dX1_cheapestBelow_8 ?_
      refine lv_icmp_ge (tgt := 86) hx hb dX1_cheapestBelow_11 (of_decide_eq_true rfl) (fun c_2 => ?_) (fun c_2 => ?_)
      · have hfn := (if_pos c_2).symm.trans hfn
        refine lv_iload_n hx hb dX1_cheapestBelow_86 rfl (lv_at hl 1 rfl) ?_
        have ho := Option.some.inj hfn
        subst ho
        exact zri hx hb hr hK hP hD hS hQ rfl hlocks dX1_cheapestBelow_87
      have hfn := (if_neg c_2).symm.trans hfn
      refine lv_aload_n hx hb dX1_cheapestBelow_14 rfl (lv_at hl 2 rfl) ?_
      refine lv_iload hx hb dX1_cheapestBelow_15 (lv_at hl 0 rfl) ?_
      refine lv_iload_n hx hb dX1_cheapestBelow_17 rfl (lv_at hl 3 rfl) ?_
      obtain ⟨o_3, hqo_3, hfn⟩ := zb_s hfn
      refine zcVi (ci := 1) (rest := []) (pc' := 21) (ws' := [zV1 h0 r0_0 r0_1 v0_2 v0_3 r0_4 r0_5 v0_6 v0_7 v0_8 v0_9 v0_10 r0_11 r0_12 r0_13, zVi r0_5 k1 n1 f1, zVi r0_4 k2 n2 f2]) hP hK hD hS hA ⟨hx, hb, hml, hown, hts⟩ (zf_X1_errorAt l dC dI h0 s_1.2 p1 r0_0 r0_1 v0_2 v0_3 r0_4 r0_5 v0_6 v0_7 v0_8 v0_9 v0_10 r0_11 r0_12 r0_13 k1 n1 f1 o_3 hqo_3 H.size) (cwV 2 hts gX1_cheapestBelow_X1_errorAt rfl rfl rfl zhd_X1_errorAt ⟨Nat.le_of_ble_eq_true rfl, Nat.le_of_ble_eq_true rfl⟩) [0, 1] rfl (of_decide_eq_true rfl) [0] rfl rfl rfl rfl hl.1 rfl (Nat.le_of_ble_eq_true rfl) dX1_cheapestBelow_18 ⟨Nat.le_of_ble_eq_true rfl, Nat.le_of_ble_eq_true rfl⟩ [some 0, some 1] (of_decide_eq_true rfl) (of_decide_eq_true rfl) rfl rfl rfl (fun H locs hP hD hS => ?_)
      refine lv_istore (lv' := [(5, .int o_3), (4, .int s_1.2), (3, .int s_1.1), (0, .ref h0), (1, .int p1), (2, .int p2)]) hx hb dX1_cheapestBelow_21 hl (of_decide_eq_true rfl) rfl (fun ls hl => ?_)
      refine lv_iload hx hb dX1_cheapestBelow_23 (lv_at hl 0 rfl) ?_
      refine lv_iload_n hx hb dX1_cheapestBelow_25 rfl (lv_at hl 5 rfl) ?_
      refine lv_icmp_ge (tgt := 80) hx hb dX1_cheapestBelow_26 (of_decide_eq_true rfl) (fun c_7 => ?_) (fun c_7 => ?_)
      · have hfn := (if_pos c_7).symm.trans hfn
        refine lv_iinc (v := (s_1.2 + 1)) (lv' := [(4, .int (s_1.2 + 1)), (5, .int o_3), (3, .int s_1.1), (0, .ref h0), (1, .int p1), (2, .int p2)]) hx hb dX1_cheapestBelow_80 hl (k := 1) rfl rfl (of_decide_eq_true rfl) rfl (fun ls hl => ?_)
        refine lv_goto (tgt := 5) hx hb dX1_cheapestBelow_83 (of_decide_eq_true rfl) ?_
        exact ih_1 (s_1.1, (s_1.2 + 1)) H locs ls hfn hP hD hS (lv_sub hl [0, 2, 3, 4, 5] rfl)
      have hfn := (if_neg c_7).symm.trans hfn
      refine lv_iload_n hx hb dX1_cheapestBelow_29 rfl (lv_at hl 2 rfl) ?_
      refine lv_iconst (v := (-1)) hx hb dX1_cheapestBelow_30 zci_m1 ?_
      refine lv_icmp_eq (tgt := 77) hx hb dX1_cheapestBelow_31 (of_decide_eq_true rfl) (fun c_8 => ?_) (fun c_8 => ?_)
      · have hfn := (if_pos c_8).symm.trans hfn
        refine lv_iload hx hb dX1_cheapestBelow_77 (lv_at hl 1 rfl) ?_
        refine lv_istore_n (lv' := [(3, .int s_1.2), (5, .int o_3), (4, .int s_1.2), (0, .ref h0), (1, .int p1), (2, .int p2)]) hx hb dX1_cheapestBelow_79 rfl hl (of_decide_eq_true rfl) rfl (fun ls hl => ?_)
        refine lv_iinc (v := (s_1.2 + 1)) (lv' := [(4, .int (s_1.2 + 1)), (3, .int s_1.2), (5, .int o_3), (0, .ref h0), (1, .int p1), (2, .int p2)]) hx hb dX1_cheapestBelow_80 hl (k := 2) rfl rfl (of_decide_eq_true rfl) rfl (fun ls hl => ?_)
        refine lv_goto (tgt := 5) hx hb dX1_cheapestBelow_83 (of_decide_eq_true rfl) ?_
        exact ih_1 (s_1.2, (s_1.2 + 1)) H locs ls hfn hP hD hS (lv_sub hl [0, 1, 3, 4, 5] rfl)
      have hfn := (if_neg c_8).symm.trans hfn
      refine lv_aload_n hx hb dX1_cheapestBelow_34 rfl (lv_at hl 3 rfl) ?_
      refine va_get (D := (dC, dI)) (ci := 1) (v := .ref r0_4) (C := RX1) (T := TX1) (N := 14) hx hb hts zn_X1_cheapestBelow_X1 hown hK hP 0 rfl rfl 4 (of_decide_eq_true rfl) (hts (.fieldLink RX1 22 "ShortEnough$FullSearch" "prices" "[I") zw_X1_cheapestBelow_246) (fun _ h9 => h9) rfl dX1_cheapestBelow_35 ?_
      refine lv_iload hx hb dX1_cheapestBelow_38 (lv_at hl 1 rfl) ?_
      obtain ⟨h_9, hfn⟩ := zg_s hfn
      refine va_iald hx hb hK hP 2 1 rfl rfl h_9 dX1_cheapestBelow_40 ?_
      refine lv_aload_n hx hb dX1_cheapestBelow_41 rfl (lv_at hl 3 rfl) ?_
      refine va_get (D := (dC, dI)) (ci := 1) (v := .ref r0_4) (C := RX1) (T := TX1) (N := 14) hx hb hts zn_X1_cheapestBelow_X1 hown hK hP 0 rfl rfl 4 (of_decide_eq_true rfl) (hts (.fieldLink RX1 22 "ShortEnough$FullSearch" "prices" "[I") zw_X1_cheapestBelow_246) (fun _ h9 => h9) rfl dX1_cheapestBelow_42 ?_
      refine lv_iload_n hx hb dX1_cheapestBelow_45 rfl (lv_at hl 2 rfl) ?_
      obtain ⟨h_10, hfn⟩ := zg_s hfn
      refine va_iald hx hb hK hP 2 1 rfl rfl h_10 dX1_cheapestBelow_46 ?_
      refine lv_icmp_lt (tgt := 77) hx hb dX1_cheapestBelow_47 (of_decide_eq_true rfl) (fun c_11 => ?_) (fun c_11 => ?_)
      · have hfn := (if_pos c_11).symm.trans hfn
        refine lv_iload hx hb dX1_cheapestBelow_77 (lv_at hl 1 rfl) ?_
        refine lv_istore_n (lv' := [(3, .int s_1.2), (5, .int o_3), (4, .int s_1.2), (0, .ref h0), (1, .int p1), (2, .int p2)]) hx hb dX1_cheapestBelow_79 rfl hl (of_decide_eq_true rfl) rfl (fun ls hl => ?_)
        refine lv_iinc (v := (s_1.2 + 1)) (lv' := [(4, .int (s_1.2 + 1)), (3, .int s_1.2), (5, .int o_3), (0, .ref h0), (1, .int p1), (2, .int p2)]) hx hb dX1_cheapestBelow_80 hl (k := 2) rfl rfl (of_decide_eq_true rfl) rfl (fun ls hl => ?_)
        refine lv_goto (tgt := 5) hx hb dX1_cheapestBelow_83 (of_decide_eq_true rfl) ?_
        exact ih_1 (s_1.2, (s_1.2 + 1)) H locs ls hfn hP hD hS (lv_sub hl [0, 1, 3, 4, 5] rfl)
      have hfn := (if_neg c_11).symm.trans hfn
      refine lv_aload_n hx hb dX1_cheapestBelow_50 rfl (lv_at hl 3 rfl) ?_
      refine va_get (D := (dC, dI)) (ci := 1) (v := .ref r0_4) (C := RX1) (T := TX1) (N := 14) hx hb hts zn_X1_cheapestBelow_X1 hown hK hP 0 rfl rfl 4 (of_decide_eq_true rfl) (hts (.fieldLink RX1 22 "ShortEnough$FullSearch" "prices" "[I") zw_X1_cheapestBelow_246) (fun _ h9 => h9) rfl dX1_cheapestBelow_51 ?_
      refine lv_iload hx hb dX1_cheapestBelow_54 (lv_at hl 1 rfl) ?_
      refine va_iald hx hb hK hP 2 1 rfl rfl h_9 dX1_cheapestBelow_56 ?_
      refine lv_aload_n hx hb dX1_cheapestBelow_57 rfl (lv_at hl 3 rfl) ?_
      refine va_get (D := (dC, dI)) (ci := 1) (v := .ref r0_4) (C := RX1) (T := TX1) (N := 14) hx hb hts zn_X1_cheapestBelow_X1 hown hK hP 0 rfl rfl 4 (of_decide_eq_true rfl) (hts (.fieldLink RX1 22 "ShortEnough$FullSearch" "prices" "[I") zw_X1_cheapestBelow_246) (fun _ h9 => h9) rfl dX1_cheapestBelow_58 ?_
      refine lv_iload_n hx hb dX1_cheapestBelow_61 rfl (lv_at hl 2 rfl) ?_
      refine va_iald hx hb hK hP 2 1 rfl rfl h_10 dX1_cheapestBelow_62 ?_
      refine lv_icmp_ne (tgt := 80) hx hb dX1_cheapestBelow_63 (of_decide_eq_true rfl) (fun c_12 => ?_) (fun c_12 => ?_)
      · have hfn := (if_neg c_12).symm.trans hfn
        refine lv_iinc (v := (s_1.2 + 1)) (lv' := [(4, .int (s_1.2 + 1)), (5, .int o_3), (3, .int s_1.1), (0, .ref h0), (1, .int p1), (2, .int p2)]) hx hb dX1_cheapestBelow_80 hl (k := 1) rfl rfl (of_decide_eq_true rfl) rfl (fun ls hl => ?_)
        refine lv_goto (tgt := 5) hx hb dX1_cheapestBelow_83 (of_decide_eq_true rfl) ?_
        exact ih_1 (s_1.1, (s_1.2 + 1)) H locs ls hfn hP hD hS (lv_sub hl [0, 2, 3, 4, 5] rfl)
      have hfn := (if_pos c_12).symm.trans hfn
      refine lv_iload hx hb dX1_cheapestBelow_66 (lv_at hl 0 rfl) ?_
      refine lv_aload_n hx hb dX1_cheapestBelow_68 rfl (lv_at hl 3 rfl) ?_
      refine lv_iload_n hx hb dX1_cheapestBelow_69 rfl (lv_at hl 2 rfl) ?_
      refine lv_iload_n hx hb dX1_cheapestBelow_70 rfl (lv_at hl 4 rfl) ?_
      obtain ⟨o_13, hqo_13, hfn⟩ := zb_s hfn
      refine zcVi (ci := 1) (rest := [.int o_3]) (pc' := 74) (ws' := [zV1 h0 r0_0 r0_1 v0_2 v0_3 r0_4 r0_5 v0_6 v0_7 v0_8 v0_9 v0_10 r0_11 r0_12 r0_13, zVi r0_5 k1 n1 f1, zVi r0_4 k2 n2 f2]) hP hK hD hS hA ⟨hx, hb, hml, hown, hts⟩ (zf_X1_errorAt l dC dI h0 s_1.1 p1 r0_0 r0_1 v0_2 v0_3 r0_4 r0_5 v0_6 v0_7 v0_8 v0_9 v0_10 r0_11 r0_12 r0_13 k1 n1 f1 o_13 hqo_13 H.size) (cwV 2 hts gX1_cheapestBelow_X1_errorAt rfl rfl rfl zhd_X1_errorAt ⟨Nat.le_of_ble_eq_true rfl, Nat.le_of_ble_eq_true rfl⟩) [0, 1] rfl (of_decide_eq_true rfl) [0] rfl rfl rfl rfl hl.1 rfl (Nat.le_of_ble_eq_true rfl) dX1_cheapestBelow_71 ⟨Nat.le_of_ble_eq_true rfl, Nat.le_of_ble_eq_true rfl⟩ [some 0, some 1] (of_decide_eq_true rfl) (of_decide_eq_true rfl) rfl rfl rfl (fun H locs hP hD hS => ?_)
      refine lv_icmp_ge (tgt := 80) hx hb dX1_cheapestBelow_74 (of_decide_eq_true rfl) (fun c_17 => ?_) (fun c_17 => ?_)
      · have hfn := (if_pos c_17).symm.trans hfn
        refine lv_iinc (v := (s_1.2 + 1)) (lv' := [(4, .int (s_1.2 + 1)), (5, .int o_3), (3, .int s_1.1), (0, .ref h0), (1, .int p1), (2, .int p2)]) hx hb dX1_cheapestBelow_80 hl (k := 1) rfl rfl (of_decide_eq_true rfl) rfl (fun ls hl => ?_)
        refine lv_goto (tgt := 5) hx hb dX1_cheapestBelow_83 (of_decide_eq_true rfl) ?_
        exact ih_1 (s_1.1, (s_1.2 + 1)) H locs ls hfn hP hD hS (lv_sub hl [0, 2, 3, 4, 5] rfl)
      have hfn := (if_neg c_17).symm.trans hfn
      refine lv_iload hx hb dX1_cheapestBelow_77 (lv_at hl 1 rfl) ?_
      refine lv_istore_n (lv' := [(3, .int s_1.2), (5, .int o_3), (4, .int s_1.2), (0, .ref h0), (1, .int p1), (2, .int p2)]) hx hb dX1_cheapestBelow_79 rfl hl (of_decide_eq_true rfl) rfl (fun ls hl => ?_)
      refine lv_iinc (v := (s_1.2 + 1)) (lv' := [(4, .int (s_1.2 + 1)), (3, .int s_1.2), (5, .int o_3), (0, .ref h0), (1, .int p1), (2, .int p2)]) hx hb dX1_cheapestBelow_80 hl (k := 2) rfl rfl (of_decide_eq_true rfl) rfl (fun ls hl => ?_)
      refine lv_goto (tgt := 5) hx hb dX1_cheapestBelow_83 (of_decide_eq_true rfl) ?_
      exact ih_1 (s_1.2, (s_1.2 + 1)) H locs ls hfn hP hD hS (lv_sub hl [0, 1, 3, 4, 5] rfl)
  exact lp_1 _ ((-1), 0) s.heap [] ls hfn hP hD hS (lv_sub hl [0, 1, 2, 3, 4] rfl)
theorem zn_X1_countAlike_X1 : ∀ w ∈ wsX10, w ∈ wsX1_countAlike := fun _ h => List.mem_cons_of_mem _ (List.mem_append_right _ h)
theorem zw_X1_countAlike_252 : Cond.fieldLink RX1 68 "ShortEnough$FullSearch" "many" "I" ∈ wsX1_countAlike := List.mem_of_getElem? (i := 1) (by decide +kernel)
theorem zw_X1_countAlike_253 : Cond.fieldLink RX1 22 "ShortEnough$FullSearch" "prices" "[I" ∈ wsX1_countAlike := List.mem_of_getElem? (i := 2) (by decide +kernel)
set_option maxHeartbeats 4000000 in
set_option maxRecDepth 100000 in
theorem zf_X1_countAlike (l : Launch) (dC : Nat → ClassId) (dI : Nat → Nat → Nat) (h0 : Nat) (p1 : Int32) (p2 : Int32) (p3 : Int32) (r0_0 : Nat) (r0_1 : Nat) (v0_2 : Int32) (v0_3 : Int32) (r0_4 : Nat) (r0_5 : Nat) (v0_6 : Int32) (v0_7 : Int32) (v0_8 : Int32) (v0_9 : Int32) (v0_10 : Int32) (r0_11 : Nat) (r0_12 : Nat) (r0_13 : Nat) (k1 : Nat) (n1 : Nat) (f1 : Nat → Int32) (k2 : Nat) (n2 : Nat) (f2 : Nat → Int32) (o : Int32) (hfn : fn_X1_countAlike p1 p2 p3 v0_3 v0_6 n1 f1 n2 f2 = some o) (sz : Nat) : zMi l yX1_countAlike wsX1_countAlike ({ frames := 1, cells := 0, slots := 0, locals := 23 }) (dC, dI) vwCl [.ref h0, .int p1, .int p2, .int p3] [zV1 h0 r0_0 r0_1 v0_2 v0_3 r0_4 r0_5 v0_6 v0_7 v0_8 v0_9 v0_10 r0_11 r0_12 r0_13, zVi r0_4 k1 n1 f1, zVi r0_5 k2 n2 f2] [(k1, .int), (k2, .int)] (fun r _ => r = o) [zV1 h0 r0_0 r0_1 v0_2 v0_3 r0_4 r0_5 v0_6 v0_7 v0_8 v0_9 v0_10 r0_11 r0_12 r0_13, zVi r0_4 k1 n1 f1, zVi r0_5 k2 n2 f2] [(k1, .int), (k2, .int)] sz := by
  refine zgoi (cc := cX1_countAlike) (maxL := 6) (ret := (some .int)) (C0 := RX1) (lv0 := [(0, .ref h0), (1, .int p1), (2, .int p2), (3, .int p3)]) zpl_X1 rfl rfl rfl (Nat.le_of_ble_eq_true rfl) ?_
  intro p e s m below meth c A ls Q hx hb hr hts hown hlocks hml hP hK hD hA hS hl hQ
  unfold fn_X1_countAlike at hfn
  refine lv_iconst (v := 0) hx hb dX1_countAlike_0 zci_0 ?_
  refine lv_istore (lv' := [(4, .int 0), (0, .ref h0), (1, .int p1), (2, .int p2), (3, .int p3)]) hx hb dX1_countAlike_1 hl (of_decide_eq_true rfl) rfl (fun ls hl => ?_)
  refine lv_iconst (v := 0) hx hb dX1_countAlike_3 zci_0 ?_
  refine lv_istore (lv' := [(5, .int 0), (4, .int 0), (0, .ref h0), (1, .int p1), (2, .int p2), (3, .int p3)]) hx hb dX1_countAlike_4 hl (of_decide_eq_true rfl) rfl (fun ls hl => ?_)
  obtain ⟨bd_1, ebd_1, hfn⟩ := zl_g hfn
  have lp_1 : ∀ (n : Nat) (s_1 : Int32 × Int32) (H : Heap) (locs : List Loc) (ls : Array Slot), zl bd_1 n s_1 = some o → va_P (dC, dI) vwCl [zV1 h0 r0_0 r0_1 v0_2 v0_3 r0_4 r0_5 v0_6 v0_7 v0_8 v0_9 v0_10 r0_11 r0_12 r0_13, zVi r0_4 k1 n1 f1, zVi r0_5 k2 n2 f2] H → va_D A [zV1 h0 r0_0 r0_1 v0_2 v0_3 r0_4 r0_5 v0_6 v0_7 v0_8 v0_9 v0_10 r0_11 r0_12 r0_13, zVi r0_4 k1 n1 f1, zVi r0_5 k2 n2 f2] → va_S A s.heap H locs → lv_has ls 6 [(5, .int s_1.2), (4, .int s_1.1), (0, .ref h0), (1, .int p1), (2, .int p2), (3, .int p3)] → W p l e (headSpec wsX1_countAlike ({ frames := 1, cells := 0, slots := 0, locals := 23 })).room s m ([.ref h0, .int p1, .int p2, .int p3] : List Value).toArray below meth c H locs 0 0 Q (F0 m 6 ls []) := by
    intro n
    induction n with
    | zero => exact fun _ _ _ _ hfn => (zl_0 hfn).elim
    | succ n ih_1 =>
      intro s_1 H locs ls hfn hP hD hS hl
      have hfn := zl_s ebd_1 hfn
      refine lv_iload hx hb dX1_countAlike_6 (lv_at hl 0 rfl) ?_
      refine lv_aload_n hx hb dX1_countAlike_8 rfl (lv_at hl 2 rfl) ?_
      refine va_get (D := (dC, dI)) (ci := 1) (v := .int v0_6) (C := RX1) (T := TX1) (N := 14) hx hb hts zn_X1_countAlike_X1 hown hK hP 0 rfl rfl 6 (of_decide_eq_true rfl) (hts (.fieldLink RX1 68 "ShortEnough$FullSearch" "many" "I") zw_X1_countAlike_252) (fun _ h9 => h9) rfl dX1_countAlike_9 ?_
      refine lv_icmp_ge (tgt := 53) hx hb dX1_countAlike_12 (of_decide_eq_true rfl) (fun c_2 => ?_) (fun c_2 => ?_)
      · have hfn := (if_pos c_2).symm.trans hfn
        refine lv_iload hx hb dX1_countAlike_53 (lv_at hl 1 rfl) ?_
        have ho := Option.some.inj hfn
        subst ho
        exact zri hx hb hr hK hP hD hS hQ rfl hlocks dX1_countAlike_55
      have hfn := (if_neg c_2).symm.trans hfn
      refine lv_iload hx hb dX1_countAlike_15 (lv_at hl 1 rfl) ?_
      refine lv_aload_n hx hb dX1_countAlike_17 rfl (lv_at hl 2 rfl) ?_
      refine va_get (D := (dC, dI)) (ci := 1) (v := .ref r0_4) (C := RX1) (T := TX1) (N := 14) hx hb hts zn_X1_countAlike_X1 hown hK hP 0 rfl rfl 4 (of_decide_eq_true rfl) (hts (.fieldLink RX1 22 "ShortEnough$FullSearch" "prices" "[I") zw_X1_countAlike_253) (fun _ h9 => h9) rfl dX1_countAlike_18 ?_
      refine lv_iload hx hb dX1_countAlike_21 (lv_at hl 0 rfl) ?_
      obtain ⟨h_3, hfn⟩ := zg_s hfn
      refine va_iald hx hb hK hP 1 0 rfl rfl h_3 dX1_countAlike_23 ?_
      refine lv_iload_n hx hb dX1_countAlike_24 rfl (lv_at hl 4 rfl) ?_
      refine lv_icmp_ne (tgt := 43) hx hb dX1_countAlike_25 (of_decide_eq_true rfl) (fun c_4 => ?_) (fun c_4 => ?_)
      · have hfn := (if_neg c_4).symm.trans hfn
        refine lv_iconst (v := 0) hx hb dX1_countAlike_43 zci_0 ?_
        refine lv_iadd hx hb dX1_countAlike_44 ?_
        refine lv_istore (lv' := [(4, .int (s_1.1 + 0)), (5, .int s_1.2), (0, .ref h0), (1, .int p1), (2, .int p2), (3, .int p3)]) hx hb dX1_countAlike_45 hl (of_decide_eq_true rfl) rfl (fun ls hl => ?_)
        refine lv_iinc (v := (s_1.2 + 1)) (lv' := [(5, .int (s_1.2 + 1)), (4, .int (s_1.1 + 0)), (0, .ref h0), (1, .int p1), (2, .int p2), (3, .int p3)]) hx hb dX1_countAlike_47 hl (k := 1) rfl rfl (of_decide_eq_true rfl) rfl (fun ls hl => ?_)
        refine lv_goto (tgt := 6) hx hb dX1_countAlike_50 (of_decide_eq_true rfl) ?_
        exact ih_1 ((s_1.1 + 0), (s_1.2 + 1)) H locs ls hfn hP hD hS (lv_sub hl [0, 1, 2, 3, 4, 5] rfl)
      have hfn := (if_pos c_4).symm.trans hfn
      refine lv_aload_n hx hb dX1_countAlike_28 rfl (lv_at hl 2 rfl) ?_
      refine lv_iload hx hb dX1_countAlike_29 (lv_at hl 0 rfl) ?_
      refine lv_iload_n hx hb dX1_countAlike_31 rfl (lv_at hl 3 rfl) ?_
      obtain ⟨o_5, hqo_5, hfn⟩ := zb_s hfn
      refine zcVi (ci := 1) (rest := [.int s_1.1]) (pc' := 35) (ws' := [zV1 h0 r0_0 r0_1 v0_2 v0_3 r0_4 r0_5 v0_6 v0_7 v0_8 v0_9 v0_10 r0_11 r0_12 r0_13, zVi r0_4 k1 n1 f1, zVi r0_5 k2 n2 f2]) hP hK hD hS hA ⟨hx, hb, hml, hown, hts⟩ (zf_X1_errorAt l dC dI h0 s_1.2 p1 r0_0 r0_1 v0_2 v0_3 r0_4 r0_5 v0_6 v0_7 v0_8 v0_9 v0_10 r0_11 r0_12 r0_13 k2 n2 f2 o_5 hqo_5 H.size) (cwV 2 hts gX1_countAlike_X1_errorAt rfl rfl rfl zhd_X1_errorAt ⟨Nat.le_of_ble_eq_true rfl, Nat.le_of_ble_eq_true rfl⟩) [0, 2] rfl (of_decide_eq_true rfl) [1] rfl rfl rfl rfl hl.1 rfl (Nat.le_of_ble_eq_true rfl) dX1_countAlike_32 ⟨Nat.le_of_ble_eq_true rfl, Nat.le_of_ble_eq_true rfl⟩ [some 0, none, some 1] (of_decide_eq_true rfl) (of_decide_eq_true rfl) rfl rfl rfl (fun H locs hP hD hS => ?_)
      refine lv_iload_n hx hb dX1_countAlike_35 rfl (lv_at hl 5 rfl) ?_
      refine lv_icmp_ne (tgt := 43) hx hb dX1_countAlike_36 (of_decide_eq_true rfl) (fun c_9 => ?_) (fun c_9 => ?_)
      · have hfn := (if_neg c_9).symm.trans hfn
        refine lv_iconst (v := 0) hx hb dX1_countAlike_43 zci_0 ?_
        refine lv_iadd hx hb dX1_countAlike_44 ?_
        refine lv_istore (lv' := [(4, .int (s_1.1 + 0)), (5, .int s_1.2), (0, .ref h0), (1, .int p1), (2, .int p2), (3, .int p3)]) hx hb dX1_countAlike_45 hl (of_decide_eq_true rfl) rfl (fun ls hl => ?_)
        refine lv_iinc (v := (s_1.2 + 1)) (lv' := [(5, .int (s_1.2 + 1)), (4, .int (s_1.1 + 0)), (0, .ref h0), (1, .int p1), (2, .int p2), (3, .int p3)]) hx hb dX1_countAlike_47 hl (k := 1) rfl rfl (of_decide_eq_true rfl) rfl (fun ls hl => ?_)
        refine lv_goto (tgt := 6) hx hb dX1_countAlike_50 (of_decide_eq_true rfl) ?_
        exact ih_1 ((s_1.1 + 0), (s_1.2 + 1)) H locs ls hfn hP hD hS (lv_sub hl [0, 1, 2, 3, 4, 5] rfl)
      have hfn := (if_pos c_9).symm.trans hfn
      refine lv_iconst (v := 1) hx hb dX1_countAlike_39 zci_1 ?_
      refine lv_goto (tgt := 44) hx hb dX1_countAlike_40 (of_decide_eq_true rfl) ?_
      refine lv_iadd hx hb dX1_countAlike_44 ?_
      refine lv_istore (lv' := [(4, .int (s_1.1 + 1)), (5, .int s_1.2), (0, .ref h0), (1, .int p1), (2, .int p2), (3, .int p3)]) hx hb dX1_countAlike_45 hl (of_decide_eq_true rfl) rfl (fun ls hl => ?_)
      refine lv_iinc (v := (s_1.2 + 1)) (lv' := [(5, .int (s_1.2 + 1)), (4, .int (s_1.1 + 1)), (0, .ref h0), (1, .int p1), (2, .int p2), (3, .int p3)]) hx hb dX1_countAlike_47 hl (k := 1) rfl rfl (of_decide_eq_true rfl) rfl (fun ls hl => ?_)
      refine lv_goto (tgt := 6) hx hb dX1_countAlike_50 (of_decide_eq_true rfl) ?_
      exact ih_1 ((s_1.1 + 1), (s_1.2 + 1)) H locs ls hfn hP hD hS (lv_sub hl [0, 1, 2, 3, 4, 5] rfl)
  exact lp_1 _ (0, 0) s.heap [] ls hfn hP hD hS (lv_sub hl [0, 1, 2, 3, 4, 5] rfl)
theorem zn_X1_drawFront_X1 : ∀ w ∈ wsX10, w ∈ wsX1_drawFront := fun _ h => List.mem_cons_of_mem _ (List.mem_append_left _ (List.mem_append_left _ (List.mem_append_right _ h)))
theorem zw_X1_drawFront_238 : Cond.fieldLink RX1 32 "ShortEnough$FullSearch" "frontOf" "I" ∈ wsX1_drawFront := List.mem_of_getElem? (i := 1) (by decide +kernel)
theorem zw_X1_drawFront_239 : Cond.fieldLink RX1 134 "ShortEnough$FullSearch" "frontSize" "I" ∈ wsX1_drawFront := List.mem_of_getElem? (i := 2) (by decide +kernel)
theorem zn_X1_drawFront_X9 : ∀ w ∈ wsX90, w ∈ wsX1_drawFront := fun _ h => List.mem_cons_of_mem _ (List.mem_append_left _ (List.mem_append_right _ h))
theorem zw_X1_drawFront_241 : Cond.fieldLink RX1 48 "ShortEnough$Task" "numbers" "LShortEnough$Numbers;" ∈ wsX1_drawFront := List.mem_of_getElem? (i := 3) (by decide +kernel)
theorem zw_X1_drawFront_242 : Cond.constant RX1 127 (1000001) ∈ wsX1_drawFront := List.mem_of_getElem? (i := 4) (by decide +kernel)
theorem zw_X1_drawFront_243 : Cond.fieldLink RX1 68 "ShortEnough$FullSearch" "many" "I" ∈ wsX1_drawFront := List.mem_of_getElem? (i := 5) (by decide +kernel)
theorem zw_X1_drawFront_247 : Cond.fieldLink RX1 35 "ShortEnough$FullSearch" "frontPrice" "[I" ∈ wsX1_drawFront := List.mem_of_getElem? (i := 6) (by decide +kernel)
theorem zw_X1_drawFront_248 : Cond.fieldLink RX1 22 "ShortEnough$FullSearch" "prices" "[I" ∈ wsX1_drawFront := List.mem_of_getElem? (i := 7) (by decide +kernel)
theorem zw_X1_drawFront_249 : Cond.fieldLink RX1 38 "ShortEnough$FullSearch" "frontError" "[I" ∈ wsX1_drawFront := List.mem_of_getElem? (i := 8) (by decide +kernel)
theorem zw_X1_drawFront_250 : Cond.fieldLink RX1 41 "ShortEnough$FullSearch" "frontMany" "[I" ∈ wsX1_drawFront := List.mem_of_getElem? (i := 9) (by decide +kernel)
set_option maxHeartbeats 4000000 in
set_option maxRecDepth 100000 in
theorem zf_X1_drawFront (l : Launch) (dC : Nat → ClassId) (dI : Nat → Nat → Nat) (h0 : Nat) (h1 : Nat) (p2 : Int32) (r0_0 : Nat) (r0_1 : Nat) (v0_2 : Int32) (v0_3 : Int32) (r0_4 : Nat) (r0_5 : Nat) (v0_6 : Int32) (v0_7 : Int32) (v0_8 : Int32) (v0_9 : Int32) (v0_10 : Int32) (r0_11 : Nat) (r0_12 : Nat) (r0_13 : Nat) (v1_0 : Int32) (r1_1 : Nat) (r1_2 : Nat) (r1_3 : Nat) (r1_4 : Nat) (v1_5 : Int32) (r1_6 : Nat) (r1_7 : Nat) (r1_8 : Nat) (v2_0 : Int32) (v2_1 : Int32) (r2_2 : Nat) (r2_3 : Nat) (r2_4 : Nat) (r2_5 : Nat) (r2_6 : Nat) (r2_7 : Nat) (r2_8 : Nat) (r2_9 : Nat) (k3 : Nat) (f3 : Nat → Int32) (k4 : Nat) (n4 : Nat) (f4 : Nat → Int32) (k5 : Nat) (n5 : Nat) (f5 : Nat → Int32) (k6 : Nat) (n6 : Nat) (f6 : Nat → Int32) (k7 : Nat) (n7 : Nat) (f7 : Nat → Int32) (k8 : Nat) (n8 : Nat) (f8 : Nat → Int32) (o : Int32 × Int32 × (Nat → Int32) × (Nat → Int32) × (Nat → Int32)) (hfn : fn_X1_drawFront p2 v0_3 v0_6 v0_9 v0_10 v2_0 f3 n4 f4 n5 f5 n6 f6 n7 f7 n8 f8 = some o) (sz : Nat) : zMv l yX1_drawFront wsX1_drawFront ({ frames := 2, cells := 0, slots := 0, locals := 48 }) (dC, dI) vwCl [.ref h0, .ref h1, .int p2] [zV1 h0 r0_0 r0_1 v0_2 v0_3 r0_4 r0_5 v0_6 v0_7 v0_8 v0_9 v0_10 r0_11 r0_12 r0_13, zV9 h1 v1_0 r1_1 r1_2 r1_3 r1_4 v1_5 r1_6 r1_7 r1_8, zV4 r1_6 v2_0 v2_1 r2_2 r2_3 r2_4 r2_5 r2_6 r2_7 r2_8 r2_9, zVi r2_5 k3 14 f3, zVi r0_5 k4 n4 f4, zVi r0_4 k5 n5 f5, zVi r0_11 k6 n6 f6, zVi r0_12 k7 n7 f7, zVi r0_13 k8 n8 f8] [(k3, .int), (k4, .int), (k5, .int), (k6, .int), (k7, .int), (k8, .int)] (fun _ => True) [zV1 h0 r0_0 r0_1 v0_2 v0_3 r0_4 r0_5 v0_6 v0_7 v0_8 o.2.1 o.1 r0_11 r0_12 r0_13, zV9 h1 v1_0 r1_1 r1_2 r1_3 r1_4 v1_5 r1_6 r1_7 r1_8, zV4 r1_6 v2_0 v2_1 r2_2 r2_3 r2_4 r2_5 r2_6 r2_7 r2_8 r2_9, zVi r2_5 k3 14 f3, zVi r0_5 k4 n4 f4, zVi r0_4 k5 n5 f5, zVi r0_11 k6 n6 o.2.2.1, zVi r0_12 k7 n7 o.2.2.2.1, zVi r0_13 k8 n8 o.2.2.2.2] [(k3, .int), (k4, .int), (k5, .int), (k6, .int), (k7, .int), (k8, .int)] sz := by
  refine zgov (cc := cX1_drawFront) (maxL := 7) (ret := none) (C0 := RX1) (lv0 := [(0, .ref h0), (1, .ref h1), (2, .int p2)]) zpl_X1 rfl rfl rfl (Nat.le_of_ble_eq_true rfl) ?_
  intro p e s m below meth c A ls Q hx hb hr hts hown hlocks hml hP hK hD hA hS hl hQ
  unfold fn_X1_drawFront at hfn
  refine lv_aload_n hx hb dX1_drawFront_0 rfl (lv_at hl 0 rfl) ?_
  refine va_get (D := (dC, dI)) (ci := 1) (v := .int v0_9) (C := RX1) (T := TX1) (N := 14) hx hb hts zn_X1_drawFront_X1 hown hK hP 0 rfl rfl 9 (of_decide_eq_true rfl) (hts (.fieldLink RX1 32 "ShortEnough$FullSearch" "frontOf" "I") zw_X1_drawFront_238) (fun _ h9 => h9) rfl dX1_drawFront_1 ?_
  refine lv_iload_n hx hb dX1_drawFront_4 rfl (lv_at hl 2 rfl) ?_
  refine lv_icmp_ne (tgt := 9) hx hb dX1_drawFront_5 (of_decide_eq_true rfl) (fun c_1 => ?_) (fun c_1 => ?_)
  · have hfn := (if_neg c_1).symm.trans hfn
    refine lv_aload_n hx hb dX1_drawFront_9 rfl (lv_at hl 0 rfl) ?_
    refine lv_iload_n hx hb dX1_drawFront_10 rfl (lv_at hl 2 rfl) ?_
    refine va_put (D := (dC, dI)) (ci := 1) (v := .int p2) (ty := .int) (C := RX1) (T := TX1) (N := 14) hx hb hts zn_X1_drawFront_X1 tyX1 tyX1_ok nmX1 hown hK hP hD hS 0 rfl rfl 9 (of_decide_eq_true rfl) (hts (.fieldLink RX1 32 "ShortEnough$FullSearch" "frontOf" "I") zw_X1_drawFront_238) (fun _ h9 => h9) rfl (tyX1_ok 9 (of_decide_eq_true rfl)) rfl rfl (Nat.le_of_ble_eq_true rfl) dX1_drawFront_11 (fun H locs hP hD hS => ?_)
    have hP : va_P (dC, dI) vwCl [zV1 h0 r0_0 r0_1 v0_2 v0_3 r0_4 r0_5 v0_6 v0_7 v0_8 p2 v0_10 r0_11 r0_12 r0_13, zV9 h1 v1_0 r1_1 r1_2 r1_3 r1_4 v1_5 r1_6 r1_7 r1_8, zV4 r1_6 v2_0 v2_1 r2_2 r2_3 r2_4 r2_5 r2_6 r2_7 r2_8 r2_9, zVi r2_5 k3 14 f3, zVi r0_5 k4 n4 f4, zVi r0_4 k5 n5 f5, zVi r0_11 k6 n6 f6, zVi r0_12 k7 n7 f7, zVi r0_13 k8 n8 f8] H := hP
    have hD := zDW hD hP rfl
    refine lv_aload_n hx hb dX1_drawFront_14 rfl (lv_at hl 0 rfl) ?_
    refine lv_iconst (v := 0) hx hb dX1_drawFront_15 zci_0 ?_
    refine va_put (D := (dC, dI)) (ci := 1) (v := .int 0) (ty := .int) (C := RX1) (T := TX1) (N := 14) hx hb hts zn_X1_drawFront_X1 tyX1 tyX1_ok nmX1 hown hK hP hD hS 0 rfl rfl 10 (of_decide_eq_true rfl) (hts (.fieldLink RX1 134 "ShortEnough$FullSearch" "frontSize" "I") zw_X1_drawFront_239) (fun _ h9 => h9) rfl (tyX1_ok 10 (of_decide_eq_true rfl)) rfl rfl (Nat.le_of_ble_eq_true rfl) dX1_drawFront_16 (fun H locs hP hD hS => ?_)
    have hP : va_P (dC, dI) vwCl [zV1 h0 r0_0 r0_1 v0_2 v0_3 r0_4 r0_5 v0_6 v0_7 v0_8 p2 0 r0_11 r0_12 r0_13, zV9 h1 v1_0 r1_1 r1_2 r1_3 r1_4 v1_5 r1_6 r1_7 r1_8, zV4 r1_6 v2_0 v2_1 r2_2 r2_3 r2_4 r2_5 r2_6 r2_7 r2_8 r2_9, zVi r2_5 k3 14 f3, zVi r0_5 k4 n4 f4, zVi r0_4 k5 n5 f5, zVi r0_11 k6 n6 f6, zVi r0_12 k7 n7 f7, zVi r0_13 k8 n8 f8] H := hP
    have hD := zDW hD hP rfl
    refine lv_aload_n hx hb dX1_drawFront_19 rfl (lv_at hl 1 rfl) ?_
    refine va_get (D := (dC, dI)) (ci := 9) (v := .ref r1_6) (C := RX9) (T := TX9) (N := 9) hx hb hts zn_X1_drawFront_X9 hown hK hP 1 rfl rfl 6 (of_decide_eq_true rfl) (hts (.fieldLink RX1 48 "ShortEnough$Task" "numbers" "LShortEnough$Numbers;") zw_X1_drawFront_241) (fun _ h9 => h9) rfl dX1_drawFront_20 ?_
    refine lv_iload_n hx hb dX1_drawFront_23 rfl (lv_at hl 2 rfl) ?_
    obtain ⟨o_2, hqo_2, hfn⟩ := zb_s hfn
    refine zcVi (ci := 4) (rest := []) (pc' := 27) (ws' := [zV1 h0 r0_0 r0_1 v0_2 v0_3 r0_4 r0_5 v0_6 v0_7 v0_8 p2 0 r0_11 r0_12 r0_13, zV9 h1 v1_0 r1_1 r1_2 r1_3 r1_4 v1_5 r1_6 r1_7 r1_8, zV4 r1_6 v2_0 v2_1 r2_2 r2_3 r2_4 r2_5 r2_6 r2_7 r2_8 r2_9, zVi r2_5 k3 14 f3, zVi r0_5 k4 n4 f4, zVi r0_4 k5 n5 f5, zVi r0_11 k6 n6 f6, zVi r0_12 k7 n7 f7, zVi r0_13 k8 n8 f8]) hP hK hD hS hA ⟨hx, hb, hml, hown, hts⟩ (zf_X4_countAnswers l dC dI r1_6 p2 v2_0 v2_1 r2_2 r2_3 r2_4 r2_5 r2_6 r2_7 r2_8 r2_9 k3 f3 o_2 hqo_2 H.size) (cwV 1 hts gX1_drawFront_X4_countAnswers rfl rfl rfl zhd_X4_countAnswers ⟨Nat.le_of_ble_eq_true rfl, Nat.le_of_ble_eq_true rfl⟩) [2, 3] rfl (of_decide_eq_true rfl) [0] rfl rfl rfl rfl hl.1 rfl (Nat.le_of_ble_eq_true rfl) dX1_drawFront_24 ⟨Nat.le_of_ble_eq_true rfl, Nat.le_of_ble_eq_true rfl⟩ [none, none, some 0, some 1] (of_decide_eq_true rfl) (of_decide_eq_true rfl) rfl rfl rfl (fun H locs hP hD hS => ?_)
    refine lv_istore_n (lv' := [(3, .int o_2), (0, .ref h0), (1, .ref h1), (2, .int p2)]) hx hb dX1_drawFront_27 rfl hl (of_decide_eq_true rfl) rfl (fun ls hl => ?_)
    refine lv_ldc (v := 1000001) hx hb hown (hts (.constant RX1 127 (1000001)) zw_X1_drawFront_242) dX1_drawFront_28 ?_
    refine lv_istore (lv' := [(4, .int 1000001), (3, .int o_2), (0, .ref h0), (1, .ref h1), (2, .int p2)]) hx hb dX1_drawFront_30 hl (of_decide_eq_true rfl) rfl (fun ls hl => ?_)
    refine lv_iconst (v := 0) hx hb dX1_drawFront_32 zci_0 ?_
    refine lv_istore (lv' := [(5, .int 0), (4, .int 1000001), (3, .int o_2), (0, .ref h0), (1, .ref h1), (2, .int p2)]) hx hb dX1_drawFront_33 hl (of_decide_eq_true rfl) rfl (fun ls hl => ?_)
    obtain ⟨bd_6, ebd_6, hfn⟩ := zl_g hfn
    have lp_6 : ∀ (n : Nat) (s_6 : Int32 × Int32 × Int32 × (Nat → Int32) × (Nat → Int32) × (Nat → Int32)) (H : Heap) (locs : List Loc) (ls : Array Slot), zl bd_6 n s_6 = some o → va_P (dC, dI) vwCl [zV1 h0 r0_0 r0_1 v0_2 v0_3 r0_4 r0_5 v0_6 v0_7 v0_8 p2 s_6.2.2.1 r0_11 r0_12 r0_13, zV9 h1 v1_0 r1_1 r1_2 r1_3 r1_4 v1_5 r1_6 r1_7 r1_8, zV4 r1_6 v2_0 v2_1 r2_2 r2_3 r2_4 r2_5 r2_6 r2_7 r2_8 r2_9, zVi r2_5 k3 14 f3, zVi r0_5 k4 n4 f4, zVi r0_4 k5 n5 f5, zVi r0_11 k6 n6 s_6.2.2.2.1, zVi r0_12 k7 n7 s_6.2.2.2.2.1, zVi r0_13 k8 n8 s_6.2.2.2.2.2] H → va_D A [zV1 h0 r0_0 r0_1 v0_2 v0_3 r0_4 r0_5 v0_6 v0_7 v0_8 p2 s_6.2.2.1 r0_11 r0_12 r0_13, zV9 h1 v1_0 r1_1 r1_2 r1_3 r1_4 v1_5 r1_6 r1_7 r1_8, zV4 r1_6 v2_0 v2_1 r2_2 r2_3 r2_4 r2_5 r2_6 r2_7 r2_8 r2_9, zVi r2_5 k3 14 f3, zVi r0_5 k4 n4 f4, zVi r0_4 k5 n5 f5, zVi r0_11 k6 n6 s_6.2.2.2.1, zVi r0_12 k7 n7 s_6.2.2.2.2.1, zVi r0_13 k8 n8 s_6.2.2.2.2.2] → va_S A s.heap H locs → lv_has ls 7 [(5, .int s_6.2.1), (4, .int s_6.1), (3, .int o_2), (0, .ref h0)] → W p l e (headSpec wsX1_drawFront ({ frames := 2, cells := 0, slots := 0, locals := 48 })).room s m ([.ref h0, .ref h1, .int p2] : List Value).toArray below meth c H locs 0 0 Q (F0 m 35 ls []) := by
      intro n
      induction n with
      | zero => exact fun _ _ _ _ hfn => (zl_0 hfn).elim
      | succ n ih_6 =>
        intro s_6 H locs ls hfn hP hD hS hl
        have hfn := zl_s ebd_6 hfn
        refine lv_iload hx hb dX1_drawFront_35 (lv_at hl 0 rfl) ?_
        refine lv_aload_n hx hb dX1_drawFront_37 rfl (lv_at hl 3 rfl) ?_
        refine va_get (D := (dC, dI)) (ci := 1) (v := .int v0_6) (C := RX1) (T := TX1) (N := 14) hx hb hts zn_X1_drawFront_X1 hown hK hP 0 rfl rfl 6 (of_decide_eq_true rfl) (hts (.fieldLink RX1 68 "ShortEnough$FullSearch" "many" "I") zw_X1_drawFront_243) (fun _ h9 => h9) rfl dX1_drawFront_38 ?_
        refine lv_icmp_ge (tgt := 129) hx hb dX1_drawFront_41 (of_decide_eq_true rfl) (fun c_7 => ?_) (fun c_7 => ?_)
        · have hfn := (if_pos c_7).symm.trans hfn
          have ho := Option.some.inj hfn
          subst ho
          exact zrv hx hb hr hK hP hD hS hQ trivial hlocks dX1_drawFront_129
        have hfn := (if_neg c_7).symm.trans hfn
        refine lv_aload_n hx hb dX1_drawFront_44 rfl (lv_at hl 3 rfl) ?_
        refine lv_iload_n hx hb dX1_drawFront_45 rfl (lv_at hl 2 rfl) ?_
        refine lv_iload hx hb dX1_drawFront_46 (lv_at hl 1 rfl) ?_
        obtain ⟨o_8, hqo_8, hfn⟩ := zb_s hfn
        refine zcVi (ci := 1) (rest := []) (pc' := 51) (ws' := [zV1 h0 r0_0 r0_1 v0_2 v0_3 r0_4 r0_5 v0_6 v0_7 v0_8 p2 s_6.2.2.1 r0_11 r0_12 r0_13, zV9 h1 v1_0 r1_1 r1_2 r1_3 r1_4 v1_5 r1_6 r1_7 r1_8, zV4 r1_6 v2_0 v2_1 r2_2 r2_3 r2_4 r2_5 r2_6 r2_7 r2_8 r2_9, zVi r2_5 k3 14 f3, zVi r0_5 k4 n4 f4, zVi r0_4 k5 n5 f5, zVi r0_11 k6 n6 s_6.2.2.2.1, zVi r0_12 k7 n7 s_6.2.2.2.2.1, zVi r0_13 k8 n8 s_6.2.2.2.2.2]) hP hK hD hS hA ⟨hx, hb, hml, hown, hts⟩ (zf_X1_cheapestBelow l dC dI h0 o_2 s_6.1 r0_0 r0_1 v0_2 v0_3 r0_4 r0_5 v0_6 v0_7 v0_8 p2 s_6.2.2.1 r0_11 r0_12 r0_13 k4 n4 f4 k5 n5 f5 o_8 hqo_8 H.size) (cwV 2 hts gX1_drawFront_X1_cheapestBelow rfl rfl rfl zhd_X1_cheapestBelow ⟨Nat.le_of_ble_eq_true rfl, Nat.le_of_ble_eq_true rfl⟩) [0, 4, 5] rfl (of_decide_eq_true rfl) [1, 2] rfl rfl rfl rfl hl.1 rfl (Nat.le_of_ble_eq_true rfl) dX1_drawFront_48 ⟨Nat.le_of_ble_eq_true rfl, Nat.le_of_ble_eq_true rfl⟩ [some 0, none, none, none, some 1, some 2] (of_decide_eq_true rfl) (of_decide_eq_true rfl) rfl rfl rfl (fun H locs hP hD hS => ?_)
        refine lv_istore (lv' := [(6, .int o_8), (5, .int s_6.2.1), (4, .int s_6.1), (3, .int o_2), (0, .ref h0)]) hx hb dX1_drawFront_51 hl (of_decide_eq_true rfl) rfl (fun ls hl => ?_)
        refine lv_iload hx hb dX1_drawFront_53 (lv_at hl 0 rfl) ?_
        refine lv_iconst (v := (-1)) hx hb dX1_drawFront_55 zci_m1 ?_
        refine lv_icmp_ne (tgt := 60) hx hb dX1_drawFront_56 (of_decide_eq_true rfl) (fun c_12 => ?_) (fun c_12 => ?_)
        · have hfn := (if_neg c_12).symm.trans hfn
          refine lv_aload_n hx hb dX1_drawFront_60 rfl (lv_at hl 4 rfl) ?_
          refine lv_iload hx hb dX1_drawFront_61 (lv_at hl 0 rfl) ?_
          refine lv_iload_n hx hb dX1_drawFront_63 rfl (lv_at hl 3 rfl) ?_
          obtain ⟨o_13, hqo_13, hfn⟩ := zb_s hfn
          refine zcVi (ci := 1) (rest := []) (pc' := 67) (ws' := [zV1 h0 r0_0 r0_1 v0_2 v0_3 r0_4 r0_5 v0_6 v0_7 v0_8 p2 s_6.2.2.1 r0_11 r0_12 r0_13, zV9 h1 v1_0 r1_1 r1_2 r1_3 r1_4 v1_5 r1_6 r1_7 r1_8, zV4 r1_6 v2_0 v2_1 r2_2 r2_3 r2_4 r2_5 r2_6 r2_7 r2_8 r2_9, zVi r2_5 k3 14 f3, zVi r0_5 k4 n4 f4, zVi r0_4 k5 n5 f5, zVi r0_11 k6 n6 s_6.2.2.2.1, zVi r0_12 k7 n7 s_6.2.2.2.2.1, zVi r0_13 k8 n8 s_6.2.2.2.2.2]) hP hK hD hS hA ⟨hx, hb, hml, hown, hts⟩ (zf_X1_errorAt l dC dI h0 o_8 o_2 r0_0 r0_1 v0_2 v0_3 r0_4 r0_5 v0_6 v0_7 v0_8 p2 s_6.2.2.1 r0_11 r0_12 r0_13 k4 n4 f4 o_13 hqo_13 H.size) (cwV 2 hts gX1_drawFront_X1_errorAt rfl rfl rfl zhd_X1_errorAt ⟨Nat.le_of_ble_eq_true rfl, Nat.le_of_ble_eq_true rfl⟩) [0, 4] rfl (of_decide_eq_true rfl) [1] rfl rfl rfl rfl hl.1 rfl (Nat.le_of_ble_eq_true rfl) dX1_drawFront_64 ⟨Nat.le_of_ble_eq_true rfl, Nat.le_of_ble_eq_true rfl⟩ [some 0, none, none, none, some 1] (of_decide_eq_true rfl) (of_decide_eq_true rfl) rfl rfl rfl (fun H locs hP hD hS => ?_)
          refine lv_istore (lv' := [(4, .int o_13), (6, .int o_8), (5, .int s_6.2.1), (3, .int o_2), (0, .ref h0)]) hx hb dX1_drawFront_67 hl (of_decide_eq_true rfl) rfl (fun ls hl => ?_)
          refine lv_aload_n hx hb dX1_drawFront_69 rfl (lv_at hl 4 rfl) ?_
          refine va_get (D := (dC, dI)) (ci := 1) (v := .ref r0_11) (C := RX1) (T := TX1) (N := 14) hx hb hts zn_X1_drawFront_X1 hown hK hP 0 rfl rfl 11 (of_decide_eq_true rfl) (hts (.fieldLink RX1 35 "ShortEnough$FullSearch" "frontPrice" "[I") zw_X1_drawFront_247) (fun _ h9 => h9) rfl dX1_drawFront_70 ?_
          refine lv_iload hx hb dX1_drawFront_73 (lv_at hl 2 rfl) ?_
          refine lv_aload_n hx hb dX1_drawFront_75 rfl (lv_at hl 4 rfl) ?_
          refine va_get (D := (dC, dI)) (ci := 1) (v := .ref r0_4) (C := RX1) (T := TX1) (N := 14) hx hb hts zn_X1_drawFront_X1 hown hK hP 0 rfl rfl 4 (of_decide_eq_true rfl) (hts (.fieldLink RX1 22 "ShortEnough$FullSearch" "prices" "[I") zw_X1_drawFront_248) (fun _ h9 => h9) rfl dX1_drawFront_76 ?_
          refine lv_iload hx hb dX1_drawFront_79 (lv_at hl 1 rfl) ?_
          obtain ⟨h_17, hfn⟩ := zg_s hfn
          refine va_iald hx hb hK hP 5 2 rfl rfl h_17 dX1_drawFront_81 ?_
          obtain ⟨h_18, hfn⟩ := zg_s hfn
          refine va_iast hx hb hK hP hD hS 6 3 rfl rfl h_18 dX1_drawFront_82 (fun H locs hP hD hS => ?_)
          obtain ⟨g_19, eg_19⟩ : ∃ g : Nat → Int32, g = (upd s_6.2.2.2.1 s_6.2.1.toNatClampNeg (f5 o_8.toNatClampNeg)) := ⟨_, rfl⟩
          have hfn := zn_s hfn eg_19
          have hP : va_P (dC, dI) vwCl [zV1 h0 r0_0 r0_1 v0_2 v0_3 r0_4 r0_5 v0_6 v0_7 v0_8 p2 s_6.2.2.1 r0_11 r0_12 r0_13, zV9 h1 v1_0 r1_1 r1_2 r1_3 r1_4 v1_5 r1_6 r1_7 r1_8, zV4 r1_6 v2_0 v2_1 r2_2 r2_3 r2_4 r2_5 r2_6 r2_7 r2_8 r2_9, zVi r2_5 k3 14 f3, zVi r0_5 k4 n4 f4, zVi r0_4 k5 n5 f5, zVi r0_11 k6 n6 g_19, zVi r0_12 k7 n7 s_6.2.2.2.2.1, zVi r0_13 k8 n8 s_6.2.2.2.2.2] H := by rw [eg_19]; exact hP
          have hD : va_D A [zV1 h0 r0_0 r0_1 v0_2 v0_3 r0_4 r0_5 v0_6 v0_7 v0_8 p2 s_6.2.2.1 r0_11 r0_12 r0_13, zV9 h1 v1_0 r1_1 r1_2 r1_3 r1_4 v1_5 r1_6 r1_7 r1_8, zV4 r1_6 v2_0 v2_1 r2_2 r2_3 r2_4 r2_5 r2_6 r2_7 r2_8 r2_9, zVi r2_5 k3 14 f3, zVi r0_5 k4 n4 f4, zVi r0_4 k5 n5 f5, zVi r0_11 k6 n6 g_19, zVi r0_12 k7 n7 s_6.2.2.2.2.1, zVi r0_13 k8 n8 s_6.2.2.2.2.2] := by rw [eg_19]; exact hD
          refine lv_aload_n hx hb dX1_drawFront_83 rfl (lv_at hl 4 rfl) ?_
          refine va_get (D := (dC, dI)) (ci := 1) (v := .ref r0_12) (C := RX1) (T := TX1) (N := 14) hx hb hts zn_X1_drawFront_X1 hown hK hP 0 rfl rfl 12 (of_decide_eq_true rfl) (hts (.fieldLink RX1 38 "ShortEnough$FullSearch" "frontError" "[I") zw_X1_drawFront_249) (fun _ h9 => h9) rfl dX1_drawFront_84 ?_
          refine lv_iload hx hb dX1_drawFront_87 (lv_at hl 2 rfl) ?_
          refine lv_iload hx hb dX1_drawFront_89 (lv_at hl 0 rfl) ?_
          obtain ⟨h_20, hfn⟩ := zg_s hfn
          refine va_iast hx hb hK hP hD hS 7 4 rfl rfl h_20 dX1_drawFront_91 (fun H locs hP hD hS => ?_)
          have hP : va_P (dC, dI) vwCl [zV1 h0 r0_0 r0_1 v0_2 v0_3 r0_4 r0_5 v0_6 v0_7 v0_8 p2 s_6.2.2.1 r0_11 r0_12 r0_13, zV9 h1 v1_0 r1_1 r1_2 r1_3 r1_4 v1_5 r1_6 r1_7 r1_8, zV4 r1_6 v2_0 v2_1 r2_2 r2_3 r2_4 r2_5 r2_6 r2_7 r2_8 r2_9, zVi r2_5 k3 14 f3, zVi r0_5 k4 n4 f4, zVi r0_4 k5 n5 f5, zVi r0_11 k6 n6 g_19, zVi r0_12 k7 n7 (upd s_6.2.2.2.2.1 s_6.2.1.toNatClampNeg o_13), zVi r0_13 k8 n8 s_6.2.2.2.2.2] H := hP
          have hD := zDW hD hP rfl
          refine lv_aload_n hx hb dX1_drawFront_92 rfl (lv_at hl 4 rfl) ?_
          refine va_get (D := (dC, dI)) (ci := 1) (v := .ref r0_13) (C := RX1) (T := TX1) (N := 14) hx hb hts zn_X1_drawFront_X1 hown hK hP 0 rfl rfl 13 (of_decide_eq_true rfl) (hts (.fieldLink RX1 41 "ShortEnough$FullSearch" "frontMany" "[I") zw_X1_drawFront_250) (fun _ h9 => h9) rfl dX1_drawFront_93 ?_
          refine lv_iload hx hb dX1_drawFront_96 (lv_at hl 2 rfl) ?_
          refine lv_aload_n hx hb dX1_drawFront_98 rfl (lv_at hl 4 rfl) ?_
          refine lv_iload_n hx hb dX1_drawFront_99 rfl (lv_at hl 3 rfl) ?_
          refine lv_aload_n hx hb dX1_drawFront_100 rfl (lv_at hl 4 rfl) ?_
          refine va_get (D := (dC, dI)) (ci := 1) (v := .ref r0_4) (C := RX1) (T := TX1) (N := 14) hx hb hts zn_X1_drawFront_X1 hown hK hP 0 rfl rfl 4 (of_decide_eq_true rfl) (hts (.fieldLink RX1 22 "ShortEnough$FullSearch" "prices" "[I") zw_X1_drawFront_248) (fun _ h9 => h9) rfl dX1_drawFront_101 ?_
          refine lv_iload hx hb dX1_drawFront_104 (lv_at hl 1 rfl) ?_
          refine va_iald hx hb hK hP 5 2 rfl rfl h_17 dX1_drawFront_106 ?_
          refine lv_iload hx hb dX1_drawFront_107 (lv_at hl 0 rfl) ?_
          obtain ⟨o_21, hqo_21, hfn⟩ := zb_s hfn
          refine zcVi (ci := 1) (rest := [.int s_6.2.1, .ref r0_13]) (pc' := 112) (ws' := [zV1 h0 r0_0 r0_1 v0_2 v0_3 r0_4 r0_5 v0_6 v0_7 v0_8 p2 s_6.2.2.1 r0_11 r0_12 r0_13, zV9 h1 v1_0 r1_1 r1_2 r1_3 r1_4 v1_5 r1_6 r1_7 r1_8, zV4 r1_6 v2_0 v2_1 r2_2 r2_3 r2_4 r2_5 r2_6 r2_7 r2_8 r2_9, zVi r2_5 k3 14 f3, zVi r0_5 k4 n4 f4, zVi r0_4 k5 n5 f5, zVi r0_11 k6 n6 g_19, zVi r0_12 k7 n7 (upd s_6.2.2.2.2.1 s_6.2.1.toNatClampNeg o_13), zVi r0_13 k8 n8 s_6.2.2.2.2.2]) hP hK hD hS hA ⟨hx, hb, hml, hown, hts⟩ (zf_X1_countAlike l dC dI h0 o_2 (f5 o_8.toNatClampNeg) o_13 r0_0 r0_1 v0_2 v0_3 r0_4 r0_5 v0_6 v0_7 v0_8 p2 s_6.2.2.1 r0_11 r0_12 r0_13 k5 n5 f5 k4 n4 f4 o_21 hqo_21 H.size) (cwV 3 hts gX1_drawFront_X1_countAlike rfl rfl rfl zhd_X1_countAlike ⟨Nat.le_of_ble_eq_true rfl, Nat.le_of_ble_eq_true rfl⟩) [0, 5, 4] rfl (of_decide_eq_true rfl) [2, 1] rfl rfl rfl rfl hl.1 rfl (Nat.le_of_ble_eq_true rfl) dX1_drawFront_109 ⟨Nat.le_of_ble_eq_true rfl, Nat.le_of_ble_eq_true rfl⟩ [some 0, none, none, none, some 2, some 1] (of_decide_eq_true rfl) (of_decide_eq_true rfl) rfl rfl rfl (fun H locs hP hD hS => ?_)
          obtain ⟨h_25, hfn⟩ := zg_s hfn
          refine va_iast hx hb hK hP hD hS 8 5 rfl rfl h_25 dX1_drawFront_112 (fun H locs hP hD hS => ?_)
          have hP : va_P (dC, dI) vwCl [zV1 h0 r0_0 r0_1 v0_2 v0_3 r0_4 r0_5 v0_6 v0_7 v0_8 p2 s_6.2.2.1 r0_11 r0_12 r0_13, zV9 h1 v1_0 r1_1 r1_2 r1_3 r1_4 v1_5 r1_6 r1_7 r1_8, zV4 r1_6 v2_0 v2_1 r2_2 r2_3 r2_4 r2_5 r2_6 r2_7 r2_8 r2_9, zVi r2_5 k3 14 f3, zVi r0_5 k4 n4 f4, zVi r0_4 k5 n5 f5, zVi r0_11 k6 n6 g_19, zVi r0_12 k7 n7 (upd s_6.2.2.2.2.1 s_6.2.1.toNatClampNeg o_13), zVi r0_13 k8 n8 (upd s_6.2.2.2.2.2 s_6.2.1.toNatClampNeg o_21)] H := hP
          have hD := zDW hD hP rfl
          refine lv_aload_n hx hb dX1_drawFront_113 rfl (lv_at hl 4 rfl) ?_
          refine lv_dup hx hb dX1_drawFront_114 rfl ?_
          refine va_get (D := (dC, dI)) (ci := 1) (v := .int s_6.2.2.1) (C := RX1) (T := TX1) (N := 14) hx hb hts zn_X1_drawFront_X1 hown hK hP 0 rfl rfl 10 (of_decide_eq_true rfl) (hts (.fieldLink RX1 134 "ShortEnough$FullSearch" "frontSize" "I") zw_X1_drawFront_239) (fun _ h9 => h9) rfl dX1_drawFront_115 ?_
          refine lv_iconst (v := 1) hx hb dX1_drawFront_118 zci_1 ?_
          refine lv_iadd hx hb dX1_drawFront_119 ?_
          refine va_put (D := (dC, dI)) (ci := 1) (v := .int (s_6.2.2.1 + 1)) (ty := .int) (C := RX1) (T := TX1) (N := 14) hx hb hts zn_X1_drawFront_X1 tyX1 tyX1_ok nmX1 hown hK hP hD hS 0 rfl rfl 10 (of_decide_eq_true rfl) (hts (.fieldLink RX1 134 "ShortEnough$FullSearch" "frontSize" "I") zw_X1_drawFront_239) (fun _ h9 => h9) rfl (tyX1_ok 10 (of_decide_eq_true rfl)) rfl rfl (Nat.le_of_ble_eq_true rfl) dX1_drawFront_120 (fun H locs hP hD hS => ?_)
          have hP : va_P (dC, dI) vwCl [zV1 h0 r0_0 r0_1 v0_2 v0_3 r0_4 r0_5 v0_6 v0_7 v0_8 p2 (s_6.2.2.1 + 1) r0_11 r0_12 r0_13, zV9 h1 v1_0 r1_1 r1_2 r1_3 r1_4 v1_5 r1_6 r1_7 r1_8, zV4 r1_6 v2_0 v2_1 r2_2 r2_3 r2_4 r2_5 r2_6 r2_7 r2_8 r2_9, zVi r2_5 k3 14 f3, zVi r0_5 k4 n4 f4, zVi r0_4 k5 n5 f5, zVi r0_11 k6 n6 g_19, zVi r0_12 k7 n7 (upd s_6.2.2.2.2.1 s_6.2.1.toNatClampNeg o_13), zVi r0_13 k8 n8 (upd s_6.2.2.2.2.2 s_6.2.1.toNatClampNeg o_21)] H := hP
          have hD := zDW hD hP rfl
          refine lv_iinc (v := (s_6.2.1 + 1)) (lv' := [(5, .int (s_6.2.1 + 1)), (4, .int o_13), (6, .int o_8), (3, .int o_2), (0, .ref h0)]) hx hb dX1_drawFront_123 hl (k := 2) rfl rfl (of_decide_eq_true rfl) rfl (fun ls hl => ?_)
          refine lv_goto (tgt := 35) hx hb dX1_drawFront_126 (of_decide_eq_true rfl) ?_
          exact ih_6 (o_13, (s_6.2.1 + 1), (s_6.2.2.1 + 1), g_19, (upd s_6.2.2.2.2.1 s_6.2.1.toNatClampNeg o_13), (upd s_6.2.2.2.2.2 s_6.2.1.toNatClampNeg o_21)) H locs ls hfn hP hD hS (lv_sub hl [0, 1, 3, 4] rfl)
        have hfn := (if_pos c_12).symm.trans hfn
        have ho := Option.some.inj hfn
        subst ho
        exact zrv hx hb hr hK hP hD hS hQ trivial hlocks dX1_drawFront_59
    exact lp_6 _ (1000001, 0, 0, f6, f7, f8) H locs ls hfn hP hD hS (lv_sub hl [0, 1, 2, 3] rfl)
  have hfn := (if_pos c_1).symm.trans hfn
  have ho := Option.some.inj hfn
  subst ho
  exact zrv hx hb hr hK hP hD hS hQ trivial hlocks dX1_drawFront_8
theorem zn_X2_earlierGroup_X4 : ∀ w ∈ wsX40, w ∈ wsX2_earlierGroup := fun _ h => List.mem_cons_of_mem _ (List.mem_append_left _ (List.mem_append_right _ h))
theorem zw_X2_earlierGroup_261 : Cond.fieldLink RX2 44 "ShortEnough$Numbers" "joined" "[I" ∈ wsX2_earlierGroup := List.mem_of_getElem? (i := 1) (by decide +kernel)
theorem zn_X2_earlierGroup_X2 : ∀ w ∈ wsX20, w ∈ wsX2_earlierGroup := fun _ h => List.mem_cons_of_mem _ (List.mem_append_right _ h)
theorem zw_X2_earlierGroup_263 : Cond.fieldLink RX2 9 "ShortEnough$Groups" "of" "[I" ∈ wsX2_earlierGroup := List.mem_of_getElem? (i := 2) (by decide +kernel)
set_option maxHeartbeats 4000000 in
set_option maxRecDepth 100000 in
theorem zf_X2_earlierGroup (l : Launch) (dC : Nat → ClassId) (dI : Nat → Nat → Nat) (h0 : Nat) (h1 : Nat) (p2 : Int32) (v0_0 : Int32) (v0_1 : Int32) (v0_2 : Int32) (r0_3 : Nat) (r0_4 : Nat) (r0_5 : Nat) (v1_0 : Int32) (v1_1 : Int32) (r1_2 : Nat) (r1_3 : Nat) (r1_4 : Nat) (r1_5 : Nat) (r1_6 : Nat) (r1_7 : Nat) (r1_8 : Nat) (r1_9 : Nat) (k2 : Nat) (f2 : Nat → Int32) (k3 : Nat) (f3 : Nat → Int32) (o : Int32) (hfn : fn_X2_earlierGroup p2 f2 f3 = some o) (sz : Nat) : zMi l yX2_earlierGroup wsX2_earlierGroup ({ frames := 0, cells := 0, slots := 0, locals := 0 }) (dC, dI) vwCl [.ref h0, .ref h1, .int p2] [zV2 h0 v0_0 v0_1 v0_2 r0_3 r0_4 r0_5, zV4 h1 v1_0 v1_1 r1_2 r1_3 r1_4 r1_5 r1_6 r1_7 r1_8 r1_9, zVi r1_7 k2 14 f2, zVi r0_3 k3 14 f3] [(k2, .int), (k3, .int)] (fun r _ => r = o) [zV2 h0 v0_0 v0_1 v0_2 r0_3 r0_4 r0_5, zV4 h1 v1_0 v1_1 r1_2 r1_3 r1_4 r1_5 r1_6 r1_7 r1_8 r1_9, zVi r1_7 k2 14 f2, zVi r0_3 k3 14 f3] [(k2, .int), (k3, .int)] sz := by
  refine zgoi (cc := cX2_earlierGroup) (maxL := 4) (ret := (some .int)) (C0 := RX2) (lv0 := [(0, .ref h0), (1, .ref h1), (2, .int p2)]) zpl_X2 rfl rfl rfl (Nat.le_of_ble_eq_true rfl) ?_
  intro p e s m below meth c A ls Q hx hb hr hts hown hlocks hml hP hK hD hA hS hl hQ
  unfold fn_X2_earlierGroup at hfn
  refine lv_iconst (v := 0) hx hb dX2_earlierGroup_0 zci_0 ?_
  refine lv_istore_n (lv' := [(3, .int 0), (0, .ref h0), (1, .ref h1), (2, .int p2)]) hx hb dX2_earlierGroup_1 rfl hl (of_decide_eq_true rfl) rfl (fun ls hl => ?_)
  obtain ⟨bd_1, ebd_1, hfn⟩ := zl_g hfn
  have lp_1 : ∀ (n : Nat) (s_1 : Int32) (H : Heap) (locs : List Loc) (ls : Array Slot), zl bd_1 n s_1 = some o → va_P (dC, dI) vwCl [zV2 h0 v0_0 v0_1 v0_2 r0_3 r0_4 r0_5, zV4 h1 v1_0 v1_1 r1_2 r1_3 r1_4 r1_5 r1_6 r1_7 r1_8 r1_9, zVi r1_7 k2 14 f2, zVi r0_3 k3 14 f3] H → va_D A [zV2 h0 v0_0 v0_1 v0_2 r0_3 r0_4 r0_5, zV4 h1 v1_0 v1_1 r1_2 r1_3 r1_4 r1_5 r1_6 r1_7 r1_8 r1_9, zVi r1_7 k2 14 f2, zVi r0_3 k3 14 f3] → va_S A s.heap H locs → lv_has ls 4 [(3, .int s_1), (0, .ref h0), (1, .ref h1), (2, .int p2)] → W p l e (headSpec wsX2_earlierGroup ({ frames := 0, cells := 0, slots := 0, locals := 0 })).room s m ([.ref h0, .ref h1, .int p2] : List Value).toArray below meth c H locs 0 0 Q (F0 m 2 ls []) := by
    intro n
    induction n with
    | zero => exact fun _ _ _ _ hfn => (zl_0 hfn).elim
    | succ n ih_1 =>
      intro s_1 H locs ls hfn hP hD hS hl
      have hfn := zl_s ebd_1 hfn
      refine lv_iload_n hx hb dX2_earlierGroup_2 rfl (lv_at hl 0 rfl) ?_
      refine lv_iload_n hx hb dX2_earlierGroup_3 rfl (lv_at hl 3 rfl) ?_
      refine lv_icmp_ge (tgt := 35) hx hb dX2_earlierGroup_4 (of_decide_eq_true rfl) (fun c_2 => ?_) (fun c_2 => ?_)
      · have hfn := (if_pos c_2).symm.trans hfn
        refine lv_iconst (v := (-1)) hx hb dX2_earlierGroup_35 zci_m1 ?_
        have ho := Option.some.inj hfn
        subst ho
        exact zri hx hb hr hK hP hD hS hQ rfl hlocks dX2_earlierGroup_36
      have hfn := (if_neg c_2).symm.trans hfn
      refine lv_aload_n hx hb dX2_earlierGroup_7 rfl (lv_at hl 2 rfl) ?_
      refine va_get (D := (dC, dI)) (ci := 4) (v := .ref r1_7) (C := RX4) (T := TX4) (N := 10) hx hb hts zn_X2_earlierGroup_X4 hown hK hP 1 rfl rfl 7 (of_decide_eq_true rfl) (hts (.fieldLink RX2 44 "ShortEnough$Numbers" "joined" "[I") zw_X2_earlierGroup_261) (fun _ h9 => h9) rfl dX2_earlierGroup_8 ?_
      refine lv_iload_n hx hb dX2_earlierGroup_11 rfl (lv_at hl 0 rfl) ?_
      obtain ⟨h_3, hfn⟩ := zg_s hfn
      refine va_iald hx hb hK hP 2 0 rfl rfl h_3 dX2_earlierGroup_12 ?_
      refine lv_aload_n hx hb dX2_earlierGroup_13 rfl (lv_at hl 2 rfl) ?_
      refine va_get (D := (dC, dI)) (ci := 4) (v := .ref r1_7) (C := RX4) (T := TX4) (N := 10) hx hb hts zn_X2_earlierGroup_X4 hown hK hP 1 rfl rfl 7 (of_decide_eq_true rfl) (hts (.fieldLink RX2 44 "ShortEnough$Numbers" "joined" "[I") zw_X2_earlierGroup_261) (fun _ h9 => h9) rfl dX2_earlierGroup_14 ?_
      refine lv_iload_n hx hb dX2_earlierGroup_17 rfl (lv_at hl 3 rfl) ?_
      obtain ⟨h_4, hfn⟩ := zg_s hfn
      refine va_iald hx hb hK hP 2 0 rfl rfl h_4 dX2_earlierGroup_18 ?_
      refine lv_icmp_ne (tgt := 29) hx hb dX2_earlierGroup_19 (of_decide_eq_true rfl) (fun c_5 => ?_) (fun c_5 => ?_)
      · have hfn := (if_neg c_5).symm.trans hfn
        refine lv_iinc (v := (s_1 + 1)) (lv' := [(3, .int (s_1 + 1)), (0, .ref h0), (1, .ref h1), (2, .int p2)]) hx hb dX2_earlierGroup_29 hl (k := 0) rfl rfl (of_decide_eq_true rfl) rfl (fun ls hl => ?_)
        refine lv_goto (tgt := 2) hx hb dX2_earlierGroup_32 (of_decide_eq_true rfl) ?_
        exact ih_1 (s_1 + 1) H locs ls hfn hP hD hS (lv_sub hl [0, 1, 2, 3] rfl)
      have hfn := (if_pos c_5).symm.trans hfn
      refine lv_aload_n hx hb dX2_earlierGroup_22 rfl (lv_at hl 1 rfl) ?_
      refine va_get (D := (dC, dI)) (ci := 2) (v := .ref r0_3) (C := RX2) (T := TX2) (N := 6) hx hb hts zn_X2_earlierGroup_X2 hown hK hP 0 rfl rfl 3 (of_decide_eq_true rfl) (hts (.fieldLink RX2 9 "ShortEnough$Groups" "of" "[I") zw_X2_earlierGroup_263) (fun _ h9 => h9) rfl dX2_earlierGroup_23 ?_
      refine lv_iload_n hx hb dX2_earlierGroup_26 rfl (lv_at hl 0 rfl) ?_
      refine va_iald hx hb hK hP 3 1 rfl rfl h_3 dX2_earlierGroup_27 ?_
      have ho := Option.some.inj hfn
      subst ho
      exact zri hx hb hr hK hP hD hS hQ rfl hlocks dX2_earlierGroup_28
  exact lp_1 _ 0 s.heap [] ls hfn hP hD hS (lv_sub hl [0, 1, 2, 3] rfl)
theorem zn_X2_fix_X2 : ∀ w ∈ wsX20, w ∈ wsX2_fix := fun _ h => List.mem_cons_of_mem _ (List.mem_append_right _ h)
theorem zw_X2_fix_268 : Cond.fieldLink RX2 15 "ShortEnough$Groups" "fixedAs" "[I" ∈ wsX2_fix := List.mem_of_getElem? (i := 1) (by decide +kernel)
theorem zw_X2_fix_269 : Cond.fieldLink RX2 25 "ShortEnough$Groups" "clash" "Z" ∈ wsX2_fix := List.mem_of_getElem? (i := 2) (by decide +kernel)
set_option maxHeartbeats 4000000 in
set_option maxRecDepth 100000 in
theorem zf_X2_fix (l : Launch) (dC : Nat → ClassId) (dI : Nat → Nat → Nat) (h0 : Nat) (p1 : Int32) (p2 : Int32) (v0_0 : Int32) (v0_1 : Int32) (v0_2 : Int32) (r0_3 : Nat) (r0_4 : Nat) (r0_5 : Nat) (k1 : Nat) (f1 : Nat → Int32) (o : Int32 × (Nat → Int32)) (hfn : fn_X2_fix p1 p2 v0_2 f1 = some o) (sz : Nat) : zMv l yX2_fix wsX2_fix ({ frames := 0, cells := 0, slots := 0, locals := 0 }) (dC, dI) vwCl [.ref h0, .int p1, .int p2] [zV2 h0 v0_0 v0_1 v0_2 r0_3 r0_4 r0_5, zVi r0_4 k1 14 f1] [(k1, .int)] (fun _ => True) [zV2 h0 v0_0 v0_1 o.1 r0_3 r0_4 r0_5, zVi r0_4 k1 14 o.2] [(k1, .int)] sz := by
  refine zgov (cc := cX2_fix) (maxL := 3) (ret := none) (C0 := RX2) (lv0 := [(0, .ref h0), (1, .int p1), (2, .int p2)]) zpl_X2 rfl rfl rfl (Nat.le_of_ble_eq_true rfl) ?_
  intro p e s m below meth c A ls Q hx hb hr hts hown hlocks hml hP hK hD hA hS hl hQ
  unfold fn_X2_fix at hfn
  refine lv_iload_n hx hb dX2_fix_0 rfl (lv_at hl 2 rfl) ?_
  refine lv_iconst (v := (-1)) hx hb dX2_fix_1 zci_m1 ?_
  refine lv_icmp_eq (tgt := 15) hx hb dX2_fix_2 (of_decide_eq_true rfl) (fun c_1 => ?_) (fun c_1 => ?_)
  · have hfn := (if_pos c_1).symm.trans hfn
    have ho := Option.some.inj hfn
    subst ho
    exact zrv hx hb hr hK hP hD hS hQ trivial hlocks dX2_fix_15
  have hfn := (if_neg c_1).symm.trans hfn
  refine lv_aload_n hx hb dX2_fix_5 rfl (lv_at hl 0 rfl) ?_
  refine va_get (D := (dC, dI)) (ci := 2) (v := .ref r0_4) (C := RX2) (T := TX2) (N := 6) hx hb hts zn_X2_fix_X2 hown hK hP 0 rfl rfl 4 (of_decide_eq_true rfl) (hts (.fieldLink RX2 15 "ShortEnough$Groups" "fixedAs" "[I") zw_X2_fix_268) (fun _ h9 => h9) rfl dX2_fix_6 ?_
  refine lv_iload_n hx hb dX2_fix_9 rfl (lv_at hl 1 rfl) ?_
  obtain ⟨h_2, hfn⟩ := zg_s hfn
  refine va_iald hx hb hK hP 1 0 rfl rfl h_2 dX2_fix_10 ?_
  refine lv_iload_n hx hb dX2_fix_11 rfl (lv_at hl 2 rfl) ?_
  refine lv_icmp_ne (tgt := 16) hx hb dX2_fix_12 (of_decide_eq_true rfl) (fun c_3 => ?_) (fun c_3 => ?_)
  · have hfn := (if_neg c_3).symm.trans hfn
    refine lv_aload_n hx hb dX2_fix_16 rfl (lv_at hl 0 rfl) ?_
    refine lv_aload_n hx hb dX2_fix_17 rfl (lv_at hl 0 rfl) ?_
    refine va_get (D := (dC, dI)) (ci := 2) (v := .int v0_2) (C := RX2) (T := TX2) (N := 6) hx hb hts zn_X2_fix_X2 hown hK hP 0 rfl rfl 2 (of_decide_eq_true rfl) (hts (.fieldLink RX2 25 "ShortEnough$Groups" "clash" "Z") zw_X2_fix_269) (fun _ h9 => h9) rfl dX2_fix_18 ?_
    obtain ⟨j_4, ej_4, hfn⟩ := zj_g hfn
    have jp_4 : ∀ (s_4 : Int32) (H : Heap) (locs : List Loc) (ls : Array Slot), j_4 s_4 = some o → va_P (dC, dI) vwCl [zV2 h0 v0_0 v0_1 v0_2 r0_3 r0_4 r0_5, zVi r0_4 k1 14 f1] H → va_D A [zV2 h0 v0_0 v0_1 v0_2 r0_3 r0_4 r0_5, zVi r0_4 k1 14 f1] → va_S A s.heap H locs → lv_has ls 3 [(0, .ref h0), (1, .int p1), (2, .int p2)] → W p l e (headSpec wsX2_fix ({ frames := 0, cells := 0, slots := 0, locals := 0 })).room s m ([.ref h0, .int p1, .int p2] : List Value).toArray below meth c H locs 0 0 Q (F0 m 39 ls [.int s_4, .ref h0]) := by
      intro s_4 H locs ls hfn hP hD hS hl
      have hfn := zj_s ej_4 hfn
      obtain ⟨h_5, hfn⟩ := zt_s hfn
      refine va_put (D := (dC, dI)) (ci := 2) (v := .int s_4) (ty := .boolean) (C := RX2) (T := TX2) (N := 6) hx hb hts zn_X2_fix_X2 tyX2 tyX2_ok nmX2 hown hK hP hD hS 0 rfl rfl 2 (of_decide_eq_true rfl) (hts (.fieldLink RX2 25 "ShortEnough$Groups" "clash" "Z") zw_X2_fix_269) (fun _ h9 => h9) rfl (by decide +kernel) h_5 (zfit h_5) (Nat.le_of_ble_eq_true rfl) dX2_fix_39 (fun H locs hP hD hS => ?_)
      have hP : va_P (dC, dI) vwCl [zV2 h0 v0_0 v0_1 s_4 r0_3 r0_4 r0_5, zVi r0_4 k1 14 f1] H := hP
      have hD := zDW hD hP rfl
      refine lv_aload_n hx hb dX2_fix_42 rfl (lv_at hl 0 rfl) ?_
      refine va_get (D := (dC, dI)) (ci := 2) (v := .ref r0_4) (C := RX2) (T := TX2) (N := 6) hx hb hts zn_X2_fix_X2 hown hK hP 0 rfl rfl 4 (of_decide_eq_true rfl) (hts (.fieldLink RX2 15 "ShortEnough$Groups" "fixedAs" "[I") zw_X2_fix_268) (fun _ h9 => h9) rfl dX2_fix_43 ?_
      refine lv_iload_n hx hb dX2_fix_46 rfl (lv_at hl 1 rfl) ?_
      refine lv_aload_n hx hb dX2_fix_47 rfl (lv_at hl 0 rfl) ?_
      refine va_get (D := (dC, dI)) (ci := 2) (v := .ref r0_4) (C := RX2) (T := TX2) (N := 6) hx hb hts zn_X2_fix_X2 hown hK hP 0 rfl rfl 4 (of_decide_eq_true rfl) (hts (.fieldLink RX2 15 "ShortEnough$Groups" "fixedAs" "[I") zw_X2_fix_268) (fun _ h9 => h9) rfl dX2_fix_48 ?_
      refine lv_iload_n hx hb dX2_fix_51 rfl (lv_at hl 1 rfl) ?_
      obtain ⟨h_6, hfn⟩ := zg_s hfn
      refine va_iald hx hb hK hP 1 0 rfl rfl h_6 dX2_fix_52 ?_
      refine lv_iconst (v := (-1)) hx hb dX2_fix_53 zci_m1 ?_
      refine lv_icmp_ne (tgt := 61) hx hb dX2_fix_54 (of_decide_eq_true rfl) (fun c_7 => ?_) (fun c_7 => ?_)
      · have hfn := (if_neg c_7).symm.trans hfn
        refine lv_bipush (v := (-2)) hx hb dX2_fix_61 zcb_m2 ?_
        refine va_iast hx hb hK hP hD hS 1 0 rfl rfl h_6 dX2_fix_63 (fun H locs hP hD hS => ?_)
        have hP : va_P (dC, dI) vwCl [zV2 h0 v0_0 v0_1 s_4 r0_3 r0_4 r0_5, zVi r0_4 k1 14 (upd f1 p1.toNatClampNeg (-2))] H := hP
        have hD := zDW hD hP rfl
        have ho := Option.some.inj hfn
        subst ho
        exact zrv hx hb hr hK hP hD hS hQ trivial hlocks dX2_fix_64
      have hfn := (if_pos c_7).symm.trans hfn
      refine lv_iload_n hx hb dX2_fix_57 rfl (lv_at hl 2 rfl) ?_
      refine lv_goto (tgt := 63) hx hb dX2_fix_58 (of_decide_eq_true rfl) ?_
      refine va_iast hx hb hK hP hD hS 1 0 rfl rfl h_6 dX2_fix_63 (fun H locs hP hD hS => ?_)
      have hP : va_P (dC, dI) vwCl [zV2 h0 v0_0 v0_1 s_4 r0_3 r0_4 r0_5, zVi r0_4 k1 14 (upd f1 p1.toNatClampNeg p2)] H := hP
      have hD := zDW hD hP rfl
      have ho := Option.some.inj hfn
      subst ho
      exact zrv hx hb hr hK hP hD hS hQ trivial hlocks dX2_fix_64
    obtain ⟨j_8, ej_8, hfn⟩ := zj_g hfn
    have jp_8 : ∀ (s_8 : Unit) (H : Heap) (locs : List Loc) (ls : Array Slot), j_8 s_8 = some o → va_P (dC, dI) vwCl [zV2 h0 v0_0 v0_1 v0_2 r0_3 r0_4 r0_5, zVi r0_4 k1 14 f1] H → va_D A [zV2 h0 v0_0 v0_1 v0_2 r0_3 r0_4 r0_5, zVi r0_4 k1 14 f1] → va_S A s.heap H locs → lv_has ls 3 [(0, .ref h0), (1, .int p1), (2, .int p2)] → W p l e (headSpec wsX2_fix ({ frames := 0, cells := 0, slots := 0, locals := 0 })).room s m ([.ref h0, .int p1, .int p2] : List Value).toArray below meth c H locs 0 0 Q (F0 m 34 ls [.ref h0]) := by
      intro s_8 H locs ls hfn hP hD hS hl
      have hfn := zj_s ej_8 hfn
      refine lv_iconst (v := 1) hx hb dX2_fix_34 zci_1 ?_
      refine lv_goto (tgt := 39) hx hb dX2_fix_35 (of_decide_eq_true rfl) ?_
      exact jp_4 1 H locs ls hfn hP hD hS (lv_sub hl [0, 1, 2] rfl)
    refine lv_if_ne (tgt := 34) hx hb dX2_fix_21 (of_decide_eq_true rfl) (fun c_9 => ?_) (fun c_9 => ?_)
    · have hfn := (if_neg c_9).symm.trans hfn
      exact jp_8 () s.heap [] ls hfn hP hD hS (lv_sub hl [0, 1, 2] rfl)
    have hfn := (if_pos c_9).symm.trans hfn
    refine lv_aload_n hx hb dX2_fix_24 rfl (lv_at hl 0 rfl) ?_
    refine va_get (D := (dC, dI)) (ci := 2) (v := .ref r0_4) (C := RX2) (T := TX2) (N := 6) hx hb hts zn_X2_fix_X2 hown hK hP 0 rfl rfl 4 (of_decide_eq_true rfl) (hts (.fieldLink RX2 15 "ShortEnough$Groups" "fixedAs" "[I") zw_X2_fix_268) (fun _ h9 => h9) rfl dX2_fix_25 ?_
    refine lv_iload_n hx hb dX2_fix_28 rfl (lv_at hl 1 rfl) ?_
    refine va_iald hx hb hK hP 1 0 rfl rfl h_2 dX2_fix_29 ?_
    refine lv_iconst (v := (-1)) hx hb dX2_fix_30 zci_m1 ?_
    refine lv_icmp_eq (tgt := 38) hx hb dX2_fix_31 (of_decide_eq_true rfl) (fun c_10 => ?_) (fun c_10 => ?_)
    · have hfn := (if_pos c_10).symm.trans hfn
      refine lv_iconst (v := 0) hx hb dX2_fix_38 zci_0 ?_
      exact jp_4 0 s.heap [] ls hfn hP hD hS (lv_sub hl [0, 1, 2] rfl)
    have hfn := (if_neg c_10).symm.trans hfn
    exact jp_8 () s.heap [] ls hfn hP hD hS (lv_sub hl [0, 1, 2] rfl)
  have hfn := (if_pos c_3).symm.trans hfn
  have ho := Option.some.inj hfn
  subst ho
  exact zrv hx hb hr hK hP hD hS hQ trivial hlocks dX2_fix_15
theorem zn_X2_gather_X2 : ∀ w ∈ wsX20, w ∈ wsX2_gather := fun _ h => List.mem_cons_of_mem _ (List.mem_append_left _ (List.mem_append_right _ h))
theorem zw_X2_gather_255 : Cond.fieldLink RX2 21 "ShortEnough$Groups" "count" "I" ∈ wsX2_gather := List.mem_of_getElem? (i := 1) (by decide +kernel)
theorem zw_X2_gather_256 : Cond.fieldLink RX2 25 "ShortEnough$Groups" "clash" "Z" ∈ wsX2_gather := List.mem_of_getElem? (i := 2) (by decide +kernel)
theorem zn_X2_gather_X4 : ∀ w ∈ wsX40, w ∈ wsX2_gather := fun _ h => List.mem_cons_of_mem _ (List.mem_append_right _ h)
theorem zw_X2_gather_258 : Cond.fieldLink RX2 29 "ShortEnough$Numbers" "count" "I" ∈ wsX2_gather := List.mem_of_getElem? (i := 3) (by decide +kernel)
theorem zw_X2_gather_259 : Cond.fieldLink RX2 9 "ShortEnough$Groups" "of" "[I" ∈ wsX2_gather := List.mem_of_getElem? (i := 4) (by decide +kernel)
theorem zw_X2_gather_264 : Cond.fieldLink RX2 18 "ShortEnough$Groups" "leader" "[I" ∈ wsX2_gather := List.mem_of_getElem? (i := 5) (by decide +kernel)
theorem zw_X2_gather_265 : Cond.fieldLink RX2 15 "ShortEnough$Groups" "fixedAs" "[I" ∈ wsX2_gather := List.mem_of_getElem? (i := 6) (by decide +kernel)
theorem zw_X2_gather_266 : Cond.fieldLink RX2 36 "ShortEnough$Numbers" "fixedAs" "[I" ∈ wsX2_gather := List.mem_of_getElem? (i := 7) (by decide +kernel)
theorem zw_X2_gather_270 : Cond.fieldLink RX2 41 "ShortEnough$Groups" "free" "I" ∈ wsX2_gather := List.mem_of_getElem? (i := 8) (by decide +kernel)
set_option maxHeartbeats 4000000 in
set_option maxRecDepth 100000 in
theorem zf_X2_gather (l : Launch) (dC : Nat → ClassId) (dI : Nat → Nat → Nat) (h0 : Nat) (h1 : Nat) (v0_0 : Int32) (v0_1 : Int32) (v0_2 : Int32) (r0_3 : Nat) (r0_4 : Nat) (r0_5 : Nat) (v1_0 : Int32) (v1_1 : Int32) (r1_2 : Nat) (r1_3 : Nat) (r1_4 : Nat) (r1_5 : Nat) (r1_6 : Nat) (r1_7 : Nat) (r1_8 : Nat) (r1_9 : Nat) (k2 : Nat) (f2 : Nat → Int32) (k3 : Nat) (f3 : Nat → Int32) (k4 : Nat) (f4 : Nat → Int32) (k5 : Nat) (f5 : Nat → Int32) (k6 : Nat) (f6 : Nat → Int32) (o : Int32 × Int32 × Int32 × (Nat → Int32) × (Nat → Int32) × (Nat → Int32)) (hfn : fn_X2_gather v1_0 f2 f3 f4 f5 f6 = some o) (sz : Nat) : zMv l yX2_gather wsX2_gather ({ frames := 1, cells := 0, slots := 0, locals := 23 }) (dC, dI) vwCl [.ref h0, .ref h1] [zV2 h0 v0_0 v0_1 v0_2 r0_3 r0_4 r0_5, zV4 h1 v1_0 v1_1 r1_2 r1_3 r1_4 r1_5 r1_6 r1_7 r1_8 r1_9, zVi r1_7 k2 14 f2, zVi r0_3 k3 14 f3, zVi r0_5 k4 14 f4, zVi r0_4 k5 14 f5, zVi r1_4 k6 14 f6] [(k2, .int), (k3, .int), (k4, .int), (k5, .int), (k6, .int)] (fun _ => True) [zV2 h0 o.1 o.2.1 o.2.2.1 r0_3 r0_4 r0_5, zV4 h1 v1_0 v1_1 r1_2 r1_3 r1_4 r1_5 r1_6 r1_7 r1_8 r1_9, zVi r1_7 k2 14 f2, zVi r0_3 k3 14 o.2.2.2.1, zVi r0_5 k4 14 o.2.2.2.2.1, zVi r0_4 k5 14 o.2.2.2.2.2, zVi r1_4 k6 14 f6] [(k2, .int), (k3, .int), (k4, .int), (k5, .int), (k6, .int)] sz := by
  refine zgov (cc := cX2_gather) (maxL := 3) (ret := none) (C0 := RX2) (lv0 := [(0, .ref h0), (1, .ref h1)]) zpl_X2 rfl rfl rfl (Nat.le_of_ble_eq_true rfl) ?_
  intro p e s m below meth c A ls Q hx hb hr hts hown hlocks hml hP hK hD hA hS hl hQ
  unfold fn_X2_gather at hfn
  refine lv_aload_n hx hb dX2_gather_0 rfl (lv_at hl 0 rfl) ?_
  refine lv_iconst (v := 0) hx hb dX2_gather_1 zci_0 ?_
  refine va_put (D := (dC, dI)) (ci := 2) (v := .int 0) (ty := .int) (C := RX2) (T := TX2) (N := 6) hx hb hts zn_X2_gather_X2 tyX2 tyX2_ok nmX2 hown hK hP hD hS 0 rfl rfl 0 (of_decide_eq_true rfl) (hts (.fieldLink RX2 21 "ShortEnough$Groups" "count" "I") zw_X2_gather_255) (fun _ h9 => h9) rfl (tyX2_ok 0 (of_decide_eq_true rfl)) rfl rfl (Nat.le_of_ble_eq_true rfl) dX2_gather_2 (fun H locs hP hD hS => ?_)
  have hP : va_P (dC, dI) vwCl [zV2 h0 0 v0_1 v0_2 r0_3 r0_4 r0_5, zV4 h1 v1_0 v1_1 r1_2 r1_3 r1_4 r1_5 r1_6 r1_7 r1_8 r1_9, zVi r1_7 k2 14 f2, zVi r0_3 k3 14 f3, zVi r0_5 k4 14 f4, zVi r0_4 k5 14 f5, zVi r1_4 k6 14 f6] H := hP
  have hD := zDW hD hP rfl
  refine lv_aload_n hx hb dX2_gather_5 rfl (lv_at hl 0 rfl) ?_
  refine lv_iconst (v := 0) hx hb dX2_gather_6 zci_0 ?_
  refine va_put (D := (dC, dI)) (ci := 2) (v := .int 0) (ty := .boolean) (C := RX2) (T := TX2) (N := 6) hx hb hts zn_X2_gather_X2 tyX2 tyX2_ok nmX2 hown hK hP hD hS 0 rfl rfl 2 (of_decide_eq_true rfl) (hts (.fieldLink RX2 25 "ShortEnough$Groups" "clash" "Z") zw_X2_gather_256) (fun _ h9 => h9) rfl (tyX2_ok 2 (of_decide_eq_true rfl)) rfl rfl (Nat.le_of_ble_eq_true rfl) dX2_gather_7 (fun H locs hP hD hS => ?_)
  have hP : va_P (dC, dI) vwCl [zV2 h0 0 v0_1 0 r0_3 r0_4 r0_5, zV4 h1 v1_0 v1_1 r1_2 r1_3 r1_4 r1_5 r1_6 r1_7 r1_8 r1_9, zVi r1_7 k2 14 f2, zVi r0_3 k3 14 f3, zVi r0_5 k4 14 f4, zVi r0_4 k5 14 f5, zVi r1_4 k6 14 f6] H := hP
  have hD := zDW hD hP rfl
  refine lv_iconst (v := 0) hx hb dX2_gather_10 zci_0 ?_
  refine lv_istore_n (lv' := [(2, .int 0), (0, .ref h0), (1, .ref h1)]) hx hb dX2_gather_11 rfl hl (of_decide_eq_true rfl) rfl (fun ls hl => ?_)
  obtain ⟨bd_1, ebd_1, hfn⟩ := zl_g hfn
  have lp_1 : ∀ (n : Nat) (s_1 : Int32 × Int32 × Int32 × (Nat → Int32) × (Nat → Int32) × (Nat → Int32)) (H : Heap) (locs : List Loc) (ls : Array Slot), zl bd_1 n s_1 = some o → va_P (dC, dI) vwCl [zV2 h0 s_1.2.1 v0_1 s_1.2.2.1 r0_3 r0_4 r0_5, zV4 h1 v1_0 v1_1 r1_2 r1_3 r1_4 r1_5 r1_6 r1_7 r1_8 r1_9, zVi r1_7 k2 14 f2, zVi r0_3 k3 14 s_1.2.2.2.1, zVi r0_5 k4 14 s_1.2.2.2.2.2, zVi r0_4 k5 14 s_1.2.2.2.2.1, zVi r1_4 k6 14 f6] H → va_D A [zV2 h0 s_1.2.1 v0_1 s_1.2.2.1 r0_3 r0_4 r0_5, zV4 h1 v1_0 v1_1 r1_2 r1_3 r1_4 r1_5 r1_6 r1_7 r1_8 r1_9, zVi r1_7 k2 14 f2, zVi r0_3 k3 14 s_1.2.2.2.1, zVi r0_5 k4 14 s_1.2.2.2.2.2, zVi r0_4 k5 14 s_1.2.2.2.2.1, zVi r1_4 k6 14 f6] → va_S A s.heap H locs → lv_has ls 3 [(2, .int s_1.1), (0, .ref h0), (1, .ref h1)] → W p l e (headSpec wsX2_gather ({ frames := 1, cells := 0, slots := 0, locals := 23 })).room s m ([.ref h0, .ref h1] : List Value).toArray below meth c H locs 0 0 Q (F0 m 12 ls []) := by
    intro n
    induction n with
    | zero => exact fun _ _ _ _ hfn => (zl_0 hfn).elim
    | succ n ih_1 =>
      intro s_1 H locs ls hfn hP hD hS hl
      have hfn := zl_s ebd_1 hfn
      refine lv_iload_n hx hb dX2_gather_12 rfl (lv_at hl 0 rfl) ?_
      refine lv_aload_n hx hb dX2_gather_13 rfl (lv_at hl 2 rfl) ?_
      refine va_get (D := (dC, dI)) (ci := 4) (v := .int v1_0) (C := RX4) (T := TX4) (N := 10) hx hb hts zn_X2_gather_X4 hown hK hP 1 rfl rfl 0 (of_decide_eq_true rfl) (hts (.fieldLink RX2 29 "ShortEnough$Numbers" "count" "I") zw_X2_gather_258) (fun _ h9 => h9) rfl dX2_gather_14 ?_
      refine lv_icmp_ge (tgt := 104) hx hb dX2_gather_17 (of_decide_eq_true rfl) (fun c_2 => ?_) (fun c_2 => ?_)
      · have hfn := (if_pos c_2).symm.trans hfn
        refine lv_aload_n hx hb dX2_gather_104 rfl (lv_at hl 1 rfl) ?_
        refine lv_iconst (v := 0) hx hb dX2_gather_105 zci_0 ?_
        refine va_put (D := (dC, dI)) (ci := 2) (v := .int 0) (ty := .int) (C := RX2) (T := TX2) (N := 6) hx hb hts zn_X2_gather_X2 tyX2 tyX2_ok nmX2 hown hK hP hD hS 0 rfl rfl 1 (of_decide_eq_true rfl) (hts (.fieldLink RX2 41 "ShortEnough$Groups" "free" "I") zw_X2_gather_270) (fun _ h9 => h9) rfl (tyX2_ok 1 (of_decide_eq_true rfl)) rfl rfl (Nat.le_of_ble_eq_true rfl) dX2_gather_106 (fun H locs hP hD hS => ?_)
        have hP : va_P (dC, dI) vwCl [zV2 h0 s_1.2.1 0 s_1.2.2.1 r0_3 r0_4 r0_5, zV4 h1 v1_0 v1_1 r1_2 r1_3 r1_4 r1_5 r1_6 r1_7 r1_8 r1_9, zVi r1_7 k2 14 f2, zVi r0_3 k3 14 s_1.2.2.2.1, zVi r0_5 k4 14 s_1.2.2.2.2.2, zVi r0_4 k5 14 s_1.2.2.2.2.1, zVi r1_4 k6 14 f6] H := hP
        have hD := zDW hD hP rfl
        refine lv_iconst (v := 0) hx hb dX2_gather_109 zci_0 ?_
        refine lv_istore_n (lv' := [(2, .int 0), (0, .ref h0), (1, .ref h1)]) hx hb dX2_gather_110 rfl hl (of_decide_eq_true rfl) rfl (fun ls hl => ?_)
        obtain ⟨bd_3, ebd_3, hfn⟩ := zl_g hfn
        have lp_3 : ∀ (n : Nat) (s_3 : Int32 × Int32) (H : Heap) (locs : List Loc) (ls : Array Slot), zl bd_3 n s_3 = some o → va_P (dC, dI) vwCl [zV2 h0 s_1.2.1 s_3.2 s_1.2.2.1 r0_3 r0_4 r0_5, zV4 h1 v1_0 v1_1 r1_2 r1_3 r1_4 r1_5 r1_6 r1_7 r1_8 r1_9, zVi r1_7 k2 14 f2, zVi r0_3 k3 14 s_1.2.2.2.1, zVi r0_5 k4 14 s_1.2.2.2.2.2, zVi r0_4 k5 14 s_1.2.2.2.2.1, zVi r1_4 k6 14 f6] H → va_D A [zV2 h0 s_1.2.1 s_3.2 s_1.2.2.1 r0_3 r0_4 r0_5, zV4 h1 v1_0 v1_1 r1_2 r1_3 r1_4 r1_5 r1_6 r1_7 r1_8 r1_9, zVi r1_7 k2 14 f2, zVi r0_3 k3 14 s_1.2.2.2.1, zVi r0_5 k4 14 s_1.2.2.2.2.2, zVi r0_4 k5 14 s_1.2.2.2.2.1, zVi r1_4 k6 14 f6] → va_S A s.heap H locs → lv_has ls 3 [(2, .int s_3.1), (0, .ref h0)] → W p l e (headSpec wsX2_gather ({ frames := 1, cells := 0, slots := 0, locals := 23 })).room s m ([.ref h0, .ref h1] : List Value).toArray below meth c H locs 0 0 Q (F0 m 111 ls []) := by
          intro n
          induction n with
          | zero => exact fun _ _ _ _ hfn => (zl_0 hfn).elim
          | succ n ih_3 =>
            intro s_3 H locs ls hfn hP hD hS hl
            have hfn := zl_s ebd_3 hfn
            refine lv_iload_n hx hb dX2_gather_111 rfl (lv_at hl 0 rfl) ?_
            refine lv_aload_n hx hb dX2_gather_112 rfl (lv_at hl 1 rfl) ?_
            refine va_get (D := (dC, dI)) (ci := 2) (v := .int s_1.2.1) (C := RX2) (T := TX2) (N := 6) hx hb hts zn_X2_gather_X2 hown hK hP 0 rfl rfl 0 (of_decide_eq_true rfl) (hts (.fieldLink RX2 21 "ShortEnough$Groups" "count" "I") zw_X2_gather_255) (fun _ h9 => h9) rfl dX2_gather_113 ?_
            refine lv_icmp_ge (tgt := 149) hx hb dX2_gather_116 (of_decide_eq_true rfl) (fun c_4 => ?_) (fun c_4 => ?_)
            · have hfn := (if_pos c_4).symm.trans hfn
              have ho := Option.some.inj hfn
              subst ho
              exact zrv hx hb hr hK hP hD hS hQ trivial hlocks dX2_gather_149
            have hfn := (if_neg c_4).symm.trans hfn
            refine lv_aload_n hx hb dX2_gather_119 rfl (lv_at hl 1 rfl) ?_
            refine lv_dup hx hb dX2_gather_120 rfl ?_
            refine va_get (D := (dC, dI)) (ci := 2) (v := .int s_3.2) (C := RX2) (T := TX2) (N := 6) hx hb hts zn_X2_gather_X2 hown hK hP 0 rfl rfl 1 (of_decide_eq_true rfl) (hts (.fieldLink RX2 41 "ShortEnough$Groups" "free" "I") zw_X2_gather_270) (fun _ h9 => h9) rfl dX2_gather_121 ?_
            refine lv_aload_n hx hb dX2_gather_124 rfl (lv_at hl 1 rfl) ?_
            refine va_get (D := (dC, dI)) (ci := 2) (v := .ref r0_4) (C := RX2) (T := TX2) (N := 6) hx hb hts zn_X2_gather_X2 hown hK hP 0 rfl rfl 4 (of_decide_eq_true rfl) (hts (.fieldLink RX2 15 "ShortEnough$Groups" "fixedAs" "[I") zw_X2_gather_265) (fun _ h9 => h9) rfl dX2_gather_125 ?_
            refine lv_iload_n hx hb dX2_gather_128 rfl (lv_at hl 0 rfl) ?_
            obtain ⟨h_5, hfn⟩ := zg_s hfn
            refine va_iald hx hb hK hP 5 3 rfl rfl h_5 dX2_gather_129 ?_
            refine lv_iconst (v := (-1)) hx hb dX2_gather_130 zci_m1 ?_
            refine lv_icmp_ne (tgt := 138) hx hb dX2_gather_131 (of_decide_eq_true rfl) (fun c_6 => ?_) (fun c_6 => ?_)
            · have hfn := (if_neg c_6).symm.trans hfn
              refine lv_iconst (v := 0) hx hb dX2_gather_138 zci_0 ?_
              refine lv_iadd hx hb dX2_gather_139 ?_
              refine va_put (D := (dC, dI)) (ci := 2) (v := .int (s_3.2 + 0)) (ty := .int) (C := RX2) (T := TX2) (N := 6) hx hb hts zn_X2_gather_X2 tyX2 tyX2_ok nmX2 hown hK hP hD hS 0 rfl rfl 1 (of_decide_eq_true rfl) (hts (.fieldLink RX2 41 "ShortEnough$Groups" "free" "I") zw_X2_gather_270) (fun _ h9 => h9) rfl (tyX2_ok 1 (of_decide_eq_true rfl)) rfl rfl (Nat.le_of_ble_eq_true rfl) dX2_gather_140 (fun H locs hP hD hS => ?_)
              have hP : va_P (dC, dI) vwCl [zV2 h0 s_1.2.1 (s_3.2 + 0) s_1.2.2.1 r0_3 r0_4 r0_5, zV4 h1 v1_0 v1_1 r1_2 r1_3 r1_4 r1_5 r1_6 r1_7 r1_8 r1_9, zVi r1_7 k2 14 f2, zVi r0_3 k3 14 s_1.2.2.2.1, zVi r0_5 k4 14 s_1.2.2.2.2.2, zVi r0_4 k5 14 s_1.2.2.2.2.1, zVi r1_4 k6 14 f6] H := hP
              have hD := zDW hD hP rfl
              refine lv_iinc (v := (s_3.1 + 1)) (lv' := [(2, .int (s_3.1 + 1)), (0, .ref h0)]) hx hb dX2_gather_143 hl (k := 0) rfl rfl (of_decide_eq_true rfl) rfl (fun ls hl => ?_)
              refine lv_goto (tgt := 111) hx hb dX2_gather_146 (of_decide_eq_true rfl) ?_
              exact ih_3 ((s_3.1 + 1), (s_3.2 + 0)) H locs ls hfn hP hD hS (lv_sub hl [0, 1] rfl)
            have hfn := (if_pos c_6).symm.trans hfn
            refine lv_iconst (v := 1) hx hb dX2_gather_134 zci_1 ?_
            refine lv_goto (tgt := 139) hx hb dX2_gather_135 (of_decide_eq_true rfl) ?_
            refine lv_iadd hx hb dX2_gather_139 ?_
            refine va_put (D := (dC, dI)) (ci := 2) (v := .int (s_3.2 + 1)) (ty := .int) (C := RX2) (T := TX2) (N := 6) hx hb hts zn_X2_gather_X2 tyX2 tyX2_ok nmX2 hown hK hP hD hS 0 rfl rfl 1 (of_decide_eq_true rfl) (hts (.fieldLink RX2 41 "ShortEnough$Groups" "free" "I") zw_X2_gather_270) (fun _ h9 => h9) rfl (tyX2_ok 1 (of_decide_eq_true rfl)) rfl rfl (Nat.le_of_ble_eq_true rfl) dX2_gather_140 (fun H locs hP hD hS => ?_)
            have hP : va_P (dC, dI) vwCl [zV2 h0 s_1.2.1 (s_3.2 + 1) s_1.2.2.1 r0_3 r0_4 r0_5, zV4 h1 v1_0 v1_1 r1_2 r1_3 r1_4 r1_5 r1_6 r1_7 r1_8 r1_9, zVi r1_7 k2 14 f2, zVi r0_3 k3 14 s_1.2.2.2.1, zVi r0_5 k4 14 s_1.2.2.2.2.2, zVi r0_4 k5 14 s_1.2.2.2.2.1, zVi r1_4 k6 14 f6] H := hP
            have hD := zDW hD hP rfl
            refine lv_iinc (v := (s_3.1 + 1)) (lv' := [(2, .int (s_3.1 + 1)), (0, .ref h0)]) hx hb dX2_gather_143 hl (k := 0) rfl rfl (of_decide_eq_true rfl) rfl (fun ls hl => ?_)
            refine lv_goto (tgt := 111) hx hb dX2_gather_146 (of_decide_eq_true rfl) ?_
            exact ih_3 ((s_3.1 + 1), (s_3.2 + 1)) H locs ls hfn hP hD hS (lv_sub hl [0, 1] rfl)
        exact lp_3 _ (0, 0) H locs ls hfn hP hD hS (lv_sub hl [0, 1] rfl)
      have hfn := (if_neg c_2).symm.trans hfn
      refine lv_aload_n hx hb dX2_gather_20 rfl (lv_at hl 1 rfl) ?_
      refine va_get (D := (dC, dI)) (ci := 2) (v := .ref r0_3) (C := RX2) (T := TX2) (N := 6) hx hb hts zn_X2_gather_X2 hown hK hP 0 rfl rfl 3 (of_decide_eq_true rfl) (hts (.fieldLink RX2 9 "ShortEnough$Groups" "of" "[I") zw_X2_gather_259) (fun _ h9 => h9) rfl dX2_gather_21 ?_
      refine lv_iload_n hx hb dX2_gather_24 rfl (lv_at hl 0 rfl) ?_
      refine lv_aload_n hx hb dX2_gather_25 rfl (lv_at hl 1 rfl) ?_
      refine lv_aload_n hx hb dX2_gather_26 rfl (lv_at hl 2 rfl) ?_
      refine lv_iload_n hx hb dX2_gather_27 rfl (lv_at hl 0 rfl) ?_
      obtain ⟨o_7, hqo_7, hfn⟩ := zb_s hfn
      refine zcVi (ci := 2) (rest := [.int s_1.1, .ref r0_3]) (pc' := 31) (ws' := [zV2 h0 s_1.2.1 v0_1 s_1.2.2.1 r0_3 r0_4 r0_5, zV4 h1 v1_0 v1_1 r1_2 r1_3 r1_4 r1_5 r1_6 r1_7 r1_8 r1_9, zVi r1_7 k2 14 f2, zVi r0_3 k3 14 s_1.2.2.2.1, zVi r0_5 k4 14 s_1.2.2.2.2.2, zVi r0_4 k5 14 s_1.2.2.2.2.1, zVi r1_4 k6 14 f6]) hP hK hD hS hA ⟨hx, hb, hml, hown, hts⟩ (zf_X2_earlierGroup l dC dI h0 h1 s_1.1 s_1.2.1 v0_1 s_1.2.2.1 r0_3 r0_4 r0_5 v1_0 v1_1 r1_2 r1_3 r1_4 r1_5 r1_6 r1_7 r1_8 r1_9 k2 f2 k3 s_1.2.2.2.1 o_7 hqo_7 H.size) (cwV 2 hts gX2_gather_X2_earlierGroup rfl rfl rfl zhd_X2_earlierGroup ⟨Nat.le_of_ble_eq_true rfl, Nat.le_of_ble_eq_true rfl⟩) [0, 1, 2, 3] rfl (of_decide_eq_true rfl) [0, 1] rfl rfl rfl rfl hl.1 rfl (Nat.le_of_ble_eq_true rfl) dX2_gather_28 ⟨Nat.le_of_ble_eq_true rfl, Nat.le_of_ble_eq_true rfl⟩ [some 0, some 1, some 2, some 3] (of_decide_eq_true rfl) (of_decide_eq_true rfl) rfl rfl rfl (fun H locs hP hD hS => ?_)
      obtain ⟨h_11, hfn⟩ := zg_s hfn
      refine va_iast hx hb hK hP hD hS 3 1 rfl rfl h_11 dX2_gather_31 (fun H locs hP hD hS => ?_)
      have hP : va_P (dC, dI) vwCl [zV2 h0 s_1.2.1 v0_1 s_1.2.2.1 r0_3 r0_4 r0_5, zV4 h1 v1_0 v1_1 r1_2 r1_3 r1_4 r1_5 r1_6 r1_7 r1_8 r1_9, zVi r1_7 k2 14 f2, zVi r0_3 k3 14 (upd s_1.2.2.2.1 s_1.1.toNatClampNeg o_7), zVi r0_5 k4 14 s_1.2.2.2.2.2, zVi r0_4 k5 14 s_1.2.2.2.2.1, zVi r1_4 k6 14 f6] H := hP
      have hD := zDW hD hP rfl
      refine lv_aload_n hx hb dX2_gather_32 rfl (lv_at hl 1 rfl) ?_
      refine va_get (D := (dC, dI)) (ci := 2) (v := .ref r0_3) (C := RX2) (T := TX2) (N := 6) hx hb hts zn_X2_gather_X2 hown hK hP 0 rfl rfl 3 (of_decide_eq_true rfl) (hts (.fieldLink RX2 9 "ShortEnough$Groups" "of" "[I") zw_X2_gather_259) (fun _ h9 => h9) rfl dX2_gather_33 ?_
      refine lv_iload_n hx hb dX2_gather_36 rfl (lv_at hl 0 rfl) ?_
      refine va_iald hx hb hK hP 3 1 rfl rfl h_11 dX2_gather_37 ?_
      refine lv_iconst (v := (-1)) hx hb dX2_gather_38 zci_m1 ?_
      obtain ⟨j_12, ej_12, hfn⟩ := zj_g hfn
      have jp_12 : ∀ (s_12 : Int32 × (Nat → Int32) × (Nat → Int32) × (Nat → Int32)) (H : Heap) (locs : List Loc) (ls : Array Slot), j_12 s_12 = some o → va_P (dC, dI) vwCl [zV2 h0 s_12.1 v0_1 s_1.2.2.1 r0_3 r0_4 r0_5, zV4 h1 v1_0 v1_1 r1_2 r1_3 r1_4 r1_5 r1_6 r1_7 r1_8 r1_9, zVi r1_7 k2 14 f2, zVi r0_3 k3 14 s_12.2.1, zVi r0_5 k4 14 s_12.2.2.2, zVi r0_4 k5 14 s_12.2.2.1, zVi r1_4 k6 14 f6] H → va_D A [zV2 h0 s_12.1 v0_1 s_1.2.2.1 r0_3 r0_4 r0_5, zV4 h1 v1_0 v1_1 r1_2 r1_3 r1_4 r1_5 r1_6 r1_7 r1_8 r1_9, zVi r1_7 k2 14 f2, zVi r0_3 k3 14 s_12.2.1, zVi r0_5 k4 14 s_12.2.2.2, zVi r0_4 k5 14 s_12.2.2.1, zVi r1_4 k6 14 f6] → va_S A s.heap H locs → lv_has ls 3 [(2, .int s_1.1), (0, .ref h0), (1, .ref h1)] → W p l e (headSpec wsX2_gather ({ frames := 1, cells := 0, slots := 0, locals := 23 })).room s m ([.ref h0, .ref h1] : List Value).toArray below meth c H locs 0 0 Q (F0 m 82 ls []) := by
        intro s_12 H locs ls hfn hP hD hS hl
        have hfn := zj_s ej_12 hfn
        refine lv_aload_n hx hb dX2_gather_82 rfl (lv_at hl 1 rfl) ?_
        refine lv_aload_n hx hb dX2_gather_83 rfl (lv_at hl 1 rfl) ?_
        refine va_get (D := (dC, dI)) (ci := 2) (v := .ref r0_3) (C := RX2) (T := TX2) (N := 6) hx hb hts zn_X2_gather_X2 hown hK hP 0 rfl rfl 3 (of_decide_eq_true rfl) (hts (.fieldLink RX2 9 "ShortEnough$Groups" "of" "[I") zw_X2_gather_259) (fun _ h9 => h9) rfl dX2_gather_84 ?_
        refine lv_iload_n hx hb dX2_gather_87 rfl (lv_at hl 0 rfl) ?_
        obtain ⟨h_13, hfn⟩ := zg_s hfn
        refine va_iald hx hb hK hP 3 1 rfl rfl h_13 dX2_gather_88 ?_
        refine lv_aload_n hx hb dX2_gather_89 rfl (lv_at hl 2 rfl) ?_
        refine va_get (D := (dC, dI)) (ci := 4) (v := .ref r1_4) (C := RX4) (T := TX4) (N := 10) hx hb hts zn_X2_gather_X4 hown hK hP 1 rfl rfl 4 (of_decide_eq_true rfl) (hts (.fieldLink RX2 36 "ShortEnough$Numbers" "fixedAs" "[I") zw_X2_gather_266) (fun _ h9 => h9) rfl dX2_gather_90 ?_
        refine lv_iload_n hx hb dX2_gather_93 rfl (lv_at hl 0 rfl) ?_
        refine va_iald hx hb hK hP 6 4 rfl rfl h_13 dX2_gather_94 ?_
        obtain ⟨o_14, hqo_14, hfn⟩ := zb_s hfn
        refine zcVv (ci := 2) (rest := []) (pc' := 98) (ws' := [zV2 h0 s_12.1 v0_1 o_14.1 r0_3 r0_4 r0_5, zV4 h1 v1_0 v1_1 r1_2 r1_3 r1_4 r1_5 r1_6 r1_7 r1_8 r1_9, zVi r1_7 k2 14 f2, zVi r0_3 k3 14 s_12.2.1, zVi r0_5 k4 14 s_12.2.2.2, zVi r0_4 k5 14 o_14.2, zVi r1_4 k6 14 f6]) hP hK hD hS hA ⟨hx, hb, hml, hown, hts⟩ (zf_X2_fix l dC dI h0 (s_12.2.1 s_1.1.toNatClampNeg) (f6 s_1.1.toNatClampNeg) s_12.1 v0_1 s_1.2.2.1 r0_3 r0_4 r0_5 k5 s_12.2.2.1 o_14 hqo_14 H.size) (cwV 2 hts gX2_gather_X2_fix rfl rfl rfl zhd_X2_fix ⟨Nat.le_of_ble_eq_true rfl, Nat.le_of_ble_eq_true rfl⟩) [0, 5] rfl (of_decide_eq_true rfl) [3] rfl rfl rfl rfl hl.1 rfl (Nat.le_of_ble_eq_true rfl) dX2_gather_95 ⟨Nat.le_of_ble_eq_true rfl, Nat.le_of_ble_eq_true rfl⟩ [some 0, none, none, none, none, some 1] (of_decide_eq_true rfl) (of_decide_eq_true rfl) rfl rfl rfl (fun H locs hP hD hS => ?_)
        refine lv_iinc (v := (s_1.1 + 1)) (lv' := [(2, .int (s_1.1 + 1)), (0, .ref h0), (1, .ref h1)]) hx hb dX2_gather_98 hl (k := 0) rfl rfl (of_decide_eq_true rfl) rfl (fun ls hl => ?_)
        refine lv_goto (tgt := 12) hx hb dX2_gather_101 (of_decide_eq_true rfl) ?_
        exact ih_1 ((s_1.1 + 1), s_12.1, o_14.1, s_12.2.1, o_14.2, s_12.2.2.2) H locs ls hfn hP hD hS (lv_sub hl [0, 1, 2] rfl)
      refine lv_icmp_ne (tgt := 82) hx hb dX2_gather_39 (of_decide_eq_true rfl) (fun c_18 => ?_) (fun c_18 => ?_)
      · have hfn := (if_neg c_18).symm.trans hfn
        exact jp_12 (s_1.2.1, (upd s_1.2.2.2.1 s_1.1.toNatClampNeg o_7), s_1.2.2.2.2.1, s_1.2.2.2.2.2) H locs ls hfn hP hD hS (lv_sub hl [0, 1, 2] rfl)
      have hfn := (if_pos c_18).symm.trans hfn
      refine lv_aload_n hx hb dX2_gather_42 rfl (lv_at hl 1 rfl) ?_
      refine va_get (D := (dC, dI)) (ci := 2) (v := .ref r0_3) (C := RX2) (T := TX2) (N := 6) hx hb hts zn_X2_gather_X2 hown hK hP 0 rfl rfl 3 (of_decide_eq_true rfl) (hts (.fieldLink RX2 9 "ShortEnough$Groups" "of" "[I") zw_X2_gather_259) (fun _ h9 => h9) rfl dX2_gather_43 ?_
      refine lv_iload_n hx hb dX2_gather_46 rfl (lv_at hl 0 rfl) ?_
      refine lv_aload_n hx hb dX2_gather_47 rfl (lv_at hl 1 rfl) ?_
      refine va_get (D := (dC, dI)) (ci := 2) (v := .int s_1.2.1) (C := RX2) (T := TX2) (N := 6) hx hb hts zn_X2_gather_X2 hown hK hP 0 rfl rfl 0 (of_decide_eq_true rfl) (hts (.fieldLink RX2 21 "ShortEnough$Groups" "count" "I") zw_X2_gather_255) (fun _ h9 => h9) rfl dX2_gather_48 ?_
      refine va_iast hx hb hK hP hD hS 3 1 rfl rfl h_11 dX2_gather_51 (fun H locs hP hD hS => ?_)
      obtain ⟨g_19, eg_19⟩ : ∃ g : Nat → Int32, g = (upd (upd s_1.2.2.2.1 s_1.1.toNatClampNeg o_7) s_1.1.toNatClampNeg s_1.2.1) := ⟨_, rfl⟩
      have hfn := zn_s hfn eg_19
      have hP : va_P (dC, dI) vwCl [zV2 h0 s_1.2.1 v0_1 s_1.2.2.1 r0_3 r0_4 r0_5, zV4 h1 v1_0 v1_1 r1_2 r1_3 r1_4 r1_5 r1_6 r1_7 r1_8 r1_9, zVi r1_7 k2 14 f2, zVi r0_3 k3 14 g_19, zVi r0_5 k4 14 s_1.2.2.2.2.2, zVi r0_4 k5 14 s_1.2.2.2.2.1, zVi r1_4 k6 14 f6] H := by rw [eg_19]; exact hP
      have hD : va_D A [zV2 h0 s_1.2.1 v0_1 s_1.2.2.1 r0_3 r0_4 r0_5, zV4 h1 v1_0 v1_1 r1_2 r1_3 r1_4 r1_5 r1_6 r1_7 r1_8 r1_9, zVi r1_7 k2 14 f2, zVi r0_3 k3 14 g_19, zVi r0_5 k4 14 s_1.2.2.2.2.2, zVi r0_4 k5 14 s_1.2.2.2.2.1, zVi r1_4 k6 14 f6] := by rw [eg_19]; exact hD
      refine lv_aload_n hx hb dX2_gather_52 rfl (lv_at hl 1 rfl) ?_
      refine va_get (D := (dC, dI)) (ci := 2) (v := .ref r0_5) (C := RX2) (T := TX2) (N := 6) hx hb hts zn_X2_gather_X2 hown hK hP 0 rfl rfl 5 (of_decide_eq_true rfl) (hts (.fieldLink RX2 18 "ShortEnough$Groups" "leader" "[I") zw_X2_gather_264) (fun _ h9 => h9) rfl dX2_gather_53 ?_
      refine lv_aload_n hx hb dX2_gather_56 rfl (lv_at hl 1 rfl) ?_
      refine va_get (D := (dC, dI)) (ci := 2) (v := .int s_1.2.1) (C := RX2) (T := TX2) (N := 6) hx hb hts zn_X2_gather_X2 hown hK hP 0 rfl rfl 0 (of_decide_eq_true rfl) (hts (.fieldLink RX2 21 "ShortEnough$Groups" "count" "I") zw_X2_gather_255) (fun _ h9 => h9) rfl dX2_gather_57 ?_
      refine lv_iload_n hx hb dX2_gather_60 rfl (lv_at hl 0 rfl) ?_
      obtain ⟨h_20, hfn⟩ := zg_s hfn
      refine va_iast hx hb hK hP hD hS 4 2 rfl rfl h_20 dX2_gather_61 (fun H locs hP hD hS => ?_)
      have hP : va_P (dC, dI) vwCl [zV2 h0 s_1.2.1 v0_1 s_1.2.2.1 r0_3 r0_4 r0_5, zV4 h1 v1_0 v1_1 r1_2 r1_3 r1_4 r1_5 r1_6 r1_7 r1_8 r1_9, zVi r1_7 k2 14 f2, zVi r0_3 k3 14 g_19, zVi r0_5 k4 14 (upd s_1.2.2.2.2.2 s_1.2.1.toNatClampNeg s_1.1), zVi r0_4 k5 14 s_1.2.2.2.2.1, zVi r1_4 k6 14 f6] H := hP
      have hD := zDW hD hP rfl
      refine lv_aload_n hx hb dX2_gather_62 rfl (lv_at hl 1 rfl) ?_
      refine va_get (D := (dC, dI)) (ci := 2) (v := .ref r0_4) (C := RX2) (T := TX2) (N := 6) hx hb hts zn_X2_gather_X2 hown hK hP 0 rfl rfl 4 (of_decide_eq_true rfl) (hts (.fieldLink RX2 15 "ShortEnough$Groups" "fixedAs" "[I") zw_X2_gather_265) (fun _ h9 => h9) rfl dX2_gather_63 ?_
      refine lv_aload_n hx hb dX2_gather_66 rfl (lv_at hl 1 rfl) ?_
      refine va_get (D := (dC, dI)) (ci := 2) (v := .int s_1.2.1) (C := RX2) (T := TX2) (N := 6) hx hb hts zn_X2_gather_X2 hown hK hP 0 rfl rfl 0 (of_decide_eq_true rfl) (hts (.fieldLink RX2 21 "ShortEnough$Groups" "count" "I") zw_X2_gather_255) (fun _ h9 => h9) rfl dX2_gather_67 ?_
      refine lv_iconst (v := (-1)) hx hb dX2_gather_70 zci_m1 ?_
      refine va_iast hx hb hK hP hD hS 5 3 rfl rfl h_20 dX2_gather_71 (fun H locs hP hD hS => ?_)
      have hP : va_P (dC, dI) vwCl [zV2 h0 s_1.2.1 v0_1 s_1.2.2.1 r0_3 r0_4 r0_5, zV4 h1 v1_0 v1_1 r1_2 r1_3 r1_4 r1_5 r1_6 r1_7 r1_8 r1_9, zVi r1_7 k2 14 f2, zVi r0_3 k3 14 g_19, zVi r0_5 k4 14 (upd s_1.2.2.2.2.2 s_1.2.1.toNatClampNeg s_1.1), zVi r0_4 k5 14 (upd s_1.2.2.2.2.1 s_1.2.1.toNatClampNeg (-1)), zVi r1_4 k6 14 f6] H := hP
      have hD := zDW hD hP rfl
      refine lv_aload_n hx hb dX2_gather_72 rfl (lv_at hl 1 rfl) ?_
      refine lv_dup hx hb dX2_gather_73 rfl ?_
      refine va_get (D := (dC, dI)) (ci := 2) (v := .int s_1.2.1) (C := RX2) (T := TX2) (N := 6) hx hb hts zn_X2_gather_X2 hown hK hP 0 rfl rfl 0 (of_decide_eq_true rfl) (hts (.fieldLink RX2 21 "ShortEnough$Groups" "count" "I") zw_X2_gather_255) (fun _ h9 => h9) rfl dX2_gather_74 ?_
      refine lv_iconst (v := 1) hx hb dX2_gather_77 zci_1 ?_
      refine lv_iadd hx hb dX2_gather_78 ?_
      refine va_put (D := (dC, dI)) (ci := 2) (v := .int (s_1.2.1 + 1)) (ty := .int) (C := RX2) (T := TX2) (N := 6) hx hb hts zn_X2_gather_X2 tyX2 tyX2_ok nmX2 hown hK hP hD hS 0 rfl rfl 0 (of_decide_eq_true rfl) (hts (.fieldLink RX2 21 "ShortEnough$Groups" "count" "I") zw_X2_gather_255) (fun _ h9 => h9) rfl (tyX2_ok 0 (of_decide_eq_true rfl)) rfl rfl (Nat.le_of_ble_eq_true rfl) dX2_gather_79 (fun H locs hP hD hS => ?_)
      have hP : va_P (dC, dI) vwCl [zV2 h0 (s_1.2.1 + 1) v0_1 s_1.2.2.1 r0_3 r0_4 r0_5, zV4 h1 v1_0 v1_1 r1_2 r1_3 r1_4 r1_5 r1_6 r1_7 r1_8 r1_9, zVi r1_7 k2 14 f2, zVi r0_3 k3 14 g_19, zVi r0_5 k4 14 (upd s_1.2.2.2.2.2 s_1.2.1.toNatClampNeg s_1.1), zVi r0_4 k5 14 (upd s_1.2.2.2.2.1 s_1.2.1.toNatClampNeg (-1)), zVi r1_4 k6 14 f6] H := hP
      have hD := zDW hD hP rfl
      exact jp_12 ((s_1.2.1 + 1), g_19, (upd s_1.2.2.2.2.1 s_1.2.1.toNatClampNeg (-1)), (upd s_1.2.2.2.2.2 s_1.2.1.toNatClampNeg s_1.1)) H locs ls hfn hP hD hS (lv_sub hl [0, 1, 2] rfl)
  exact lp_1 _ (0, 0, 0, f3, f5, f4) H locs ls hfn hP hD hS (lv_sub hl [0, 1, 2] rfl)
theorem zn_X2_isFree_X2 : ∀ w ∈ wsX20, w ∈ wsX2_isFree := fun _ h => List.mem_cons_of_mem _ (List.mem_append_right _ h)
theorem zw_X2_isFree_272 : Cond.fieldLink RX2 21 "ShortEnough$Groups" "count" "I" ∈ wsX2_isFree := List.mem_of_getElem? (i := 1) (by decide +kernel)
theorem zw_X2_isFree_273 : Cond.fieldLink RX2 15 "ShortEnough$Groups" "fixedAs" "[I" ∈ wsX2_isFree := List.mem_of_getElem? (i := 2) (by decide +kernel)
set_option maxHeartbeats 4000000 in
set_option maxRecDepth 100000 in
theorem zf_X2_isFree (l : Launch) (dC : Nat → ClassId) (dI : Nat → Nat → Nat) (h0 : Nat) (p1 : Int32) (v0_0 : Int32) (v0_1 : Int32) (v0_2 : Int32) (r0_3 : Nat) (r0_4 : Nat) (r0_5 : Nat) (k1 : Nat) (f1 : Nat → Int32) (o : Int32) (hfn : fn_X2_isFree p1 v0_0 f1 = some o) (sz : Nat) : zMi l yX2_isFree wsX2_isFree ({ frames := 0, cells := 0, slots := 0, locals := 0 }) (dC, dI) vwCl [.ref h0, .int p1] [zV2 h0 v0_0 v0_1 v0_2 r0_3 r0_4 r0_5, zVi r0_4 k1 14 f1] [(k1, .int)] (fun r _ => r = o ∧ narrow .boolean (.int o) = .int o) [zV2 h0 v0_0 v0_1 v0_2 r0_3 r0_4 r0_5, zVi r0_4 k1 14 f1] [(k1, .int)] sz := by
  refine zgoi (cc := cX2_isFree) (maxL := 2) (ret := (some .boolean)) (C0 := RX2) (lv0 := [(0, .ref h0), (1, .int p1)]) zpl_X2 rfl rfl rfl (Nat.le_of_ble_eq_true rfl) ?_
  intro p e s m below meth c A ls Q hx hb hr hts hown hlocks hml hP hK hD hA hS hl hQ
  unfold fn_X2_isFree at hfn
  refine lv_iload_n hx hb dX2_isFree_0 rfl (lv_at hl 1 rfl) ?_
  refine lv_if_lt (tgt := 26) hx hb dX2_isFree_1 (of_decide_eq_true rfl) (fun c_1 => ?_) (fun c_1 => ?_)
  · have hfn := (if_pos c_1).symm.trans hfn
    refine lv_iconst (v := 0) hx hb dX2_isFree_26 zci_0 ?_
    have ho := Option.some.inj hfn
    subst ho
    exact zrz hx hb hr rfl hK hP hD hS hQ ⟨rfl, zB0⟩ hlocks dX2_isFree_27
  have hfn := (if_neg c_1).symm.trans hfn
  refine lv_iload_n hx hb dX2_isFree_4 rfl (lv_at hl 1 rfl) ?_
  refine lv_aload_n hx hb dX2_isFree_5 rfl (lv_at hl 0 rfl) ?_
  refine va_get (D := (dC, dI)) (ci := 2) (v := .int v0_0) (C := RX2) (T := TX2) (N := 6) hx hb hts zn_X2_isFree_X2 hown hK hP 0 rfl rfl 0 (of_decide_eq_true rfl) (hts (.fieldLink RX2 21 "ShortEnough$Groups" "count" "I") zw_X2_isFree_272) (fun _ h9 => h9) rfl dX2_isFree_6 ?_
  refine lv_icmp_ge (tgt := 26) hx hb dX2_isFree_9 (of_decide_eq_true rfl) (fun c_2 => ?_) (fun c_2 => ?_)
  · have hfn := (if_pos c_2).symm.trans hfn
    refine lv_iconst (v := 0) hx hb dX2_isFree_26 zci_0 ?_
    have ho := Option.some.inj hfn
    subst ho
    exact zrz hx hb hr rfl hK hP hD hS hQ ⟨rfl, zB0⟩ hlocks dX2_isFree_27
  have hfn := (if_neg c_2).symm.trans hfn
  refine lv_aload_n hx hb dX2_isFree_12 rfl (lv_at hl 0 rfl) ?_
  refine va_get (D := (dC, dI)) (ci := 2) (v := .ref r0_4) (C := RX2) (T := TX2) (N := 6) hx hb hts zn_X2_isFree_X2 hown hK hP 0 rfl rfl 4 (of_decide_eq_true rfl) (hts (.fieldLink RX2 15 "ShortEnough$Groups" "fixedAs" "[I") zw_X2_isFree_273) (fun _ h9 => h9) rfl dX2_isFree_13 ?_
  refine lv_iload_n hx hb dX2_isFree_16 rfl (lv_at hl 1 rfl) ?_
  obtain ⟨h_3, hfn⟩ := zg_s hfn
  refine va_iald hx hb hK hP 1 0 rfl rfl h_3 dX2_isFree_17 ?_
  refine lv_iconst (v := (-1)) hx hb dX2_isFree_18 zci_m1 ?_
  refine lv_icmp_ne (tgt := 26) hx hb dX2_isFree_19 (of_decide_eq_true rfl) (fun c_4 => ?_) (fun c_4 => ?_)
  · have hfn := (if_neg c_4).symm.trans hfn
    refine lv_iconst (v := 0) hx hb dX2_isFree_26 zci_0 ?_
    have ho := Option.some.inj hfn
    subst ho
    exact zrz hx hb hr rfl hK hP hD hS hQ ⟨rfl, zB0⟩ hlocks dX2_isFree_27
  have hfn := (if_pos c_4).symm.trans hfn
  refine lv_iconst (v := 1) hx hb dX2_isFree_22 zci_1 ?_
  refine lv_goto (tgt := 27) hx hb dX2_isFree_23 (of_decide_eq_true rfl) ?_
  have ho := Option.some.inj hfn
  subst ho
  exact zrz hx hb hr rfl hK hP hD hS hQ ⟨rfl, zB1⟩ hlocks dX2_isFree_27
theorem zn_X2_leaderOf_X2 : ∀ w ∈ wsX20, w ∈ wsX2_leaderOf := fun _ h => List.mem_cons_of_mem _ (List.mem_append_right _ h)
theorem zw_X2_leaderOf_275 : Cond.fieldLink RX2 21 "ShortEnough$Groups" "count" "I" ∈ wsX2_leaderOf := List.mem_of_getElem? (i := 1) (by decide +kernel)
theorem zw_X2_leaderOf_276 : Cond.fieldLink RX2 18 "ShortEnough$Groups" "leader" "[I" ∈ wsX2_leaderOf := List.mem_of_getElem? (i := 2) (by decide +kernel)
set_option maxHeartbeats 4000000 in
set_option maxRecDepth 100000 in
theorem zf_X2_leaderOf (l : Launch) (dC : Nat → ClassId) (dI : Nat → Nat → Nat) (h0 : Nat) (p1 : Int32) (v0_0 : Int32) (v0_1 : Int32) (v0_2 : Int32) (r0_3 : Nat) (r0_4 : Nat) (r0_5 : Nat) (k1 : Nat) (f1 : Nat → Int32) (o : Int32) (hfn : fn_X2_leaderOf p1 v0_0 f1 = some o) (sz : Nat) : zMi l yX2_leaderOf wsX2_leaderOf ({ frames := 0, cells := 0, slots := 0, locals := 0 }) (dC, dI) vwCl [.ref h0, .int p1] [zV2 h0 v0_0 v0_1 v0_2 r0_3 r0_4 r0_5, zVi r0_5 k1 14 f1] [(k1, .int)] (fun r _ => r = o) [zV2 h0 v0_0 v0_1 v0_2 r0_3 r0_4 r0_5, zVi r0_5 k1 14 f1] [(k1, .int)] sz := by
  refine zgoi (cc := cX2_leaderOf) (maxL := 2) (ret := (some .int)) (C0 := RX2) (lv0 := [(0, .ref h0), (1, .int p1)]) zpl_X2 rfl rfl rfl (Nat.le_of_ble_eq_true rfl) ?_
  intro p e s m below meth c A ls Q hx hb hr hts hown hlocks hml hP hK hD hA hS hl hQ
  unfold fn_X2_leaderOf at hfn
  refine lv_iload_n hx hb dX2_leaderOf_0 rfl (lv_at hl 1 rfl) ?_
  refine lv_if_lt (tgt := 21) hx hb dX2_leaderOf_1 (of_decide_eq_true rfl) (fun c_1 => ?_) (fun c_1 => ?_)
  · have hfn := (if_pos c_1).symm.trans hfn
    refine lv_iconst (v := (-1)) hx hb dX2_leaderOf_21 zci_m1 ?_
    have ho := Option.some.inj hfn
    subst ho
    exact zri hx hb hr hK hP hD hS hQ rfl hlocks dX2_leaderOf_22
  have hfn := (if_neg c_1).symm.trans hfn
  refine lv_iload_n hx hb dX2_leaderOf_4 rfl (lv_at hl 1 rfl) ?_
  refine lv_aload_n hx hb dX2_leaderOf_5 rfl (lv_at hl 0 rfl) ?_
  refine va_get (D := (dC, dI)) (ci := 2) (v := .int v0_0) (C := RX2) (T := TX2) (N := 6) hx hb hts zn_X2_leaderOf_X2 hown hK hP 0 rfl rfl 0 (of_decide_eq_true rfl) (hts (.fieldLink RX2 21 "ShortEnough$Groups" "count" "I") zw_X2_leaderOf_275) (fun _ h9 => h9) rfl dX2_leaderOf_6 ?_
  refine lv_icmp_ge (tgt := 21) hx hb dX2_leaderOf_9 (of_decide_eq_true rfl) (fun c_2 => ?_) (fun c_2 => ?_)
  · have hfn := (if_pos c_2).symm.trans hfn
    refine lv_iconst (v := (-1)) hx hb dX2_leaderOf_21 zci_m1 ?_
    have ho := Option.some.inj hfn
    subst ho
    exact zri hx hb hr hK hP hD hS hQ rfl hlocks dX2_leaderOf_22
  have hfn := (if_neg c_2).symm.trans hfn
  refine lv_aload_n hx hb dX2_leaderOf_12 rfl (lv_at hl 0 rfl) ?_
  refine va_get (D := (dC, dI)) (ci := 2) (v := .ref r0_5) (C := RX2) (T := TX2) (N := 6) hx hb hts zn_X2_leaderOf_X2 hown hK hP 0 rfl rfl 5 (of_decide_eq_true rfl) (hts (.fieldLink RX2 18 "ShortEnough$Groups" "leader" "[I") zw_X2_leaderOf_276) (fun _ h9 => h9) rfl dX2_leaderOf_13 ?_
  refine lv_iload_n hx hb dX2_leaderOf_16 rfl (lv_at hl 1 rfl) ?_
  obtain ⟨h_3, hfn⟩ := zg_s hfn
  refine va_iald hx hb hK hP 1 0 rfl rfl h_3 dX2_leaderOf_17 ?_
  refine lv_goto (tgt := 22) hx hb dX2_leaderOf_18 (of_decide_eq_true rfl) ?_
  have ho := Option.some.inj hfn
  subst ho
  exact zri hx hb hr hK hP hD hS hQ rfl hlocks dX2_leaderOf_22
theorem zn_X3_forget_X3 : ∀ w ∈ wsX30, w ∈ wsX3_forget := fun _ h => List.mem_cons_of_mem _ (List.mem_append_right _ h)
theorem zw_X3_forget_278 : Cond.fieldLink RX3 45 "ShortEnough$LocalSearch" "ready" "Z" ∈ wsX3_forget := List.mem_of_getElem? (i := 1) (by decide +kernel)
set_option maxHeartbeats 4000000 in
set_option maxRecDepth 100000 in
theorem zf_X3_forget (l : Launch) (dC : Nat → ClassId) (dI : Nat → Nat → Nat) (h0 : Nat) (r0_0 : Nat) (r0_1 : Nat) (v0_2 : Int32) (v0_3 : Int32) (r0_4 : Nat) (r0_5 : Nat) (r0_6 : Nat) (r0_7 : Nat) (v0_8 : Int32) (r0_9 : Nat) (v0_10 : Int32) (v0_11 : Int32) (v0_12 : Int32) (v0_13 : Int32) (v0_14 : Int32) (v0_15 : Int32) (o : Int32) (hfn : fn_X3_forget = some o) (sz : Nat) : zMv l yX3_forget wsX3_forget ({ frames := 0, cells := 0, slots := 0, locals := 0 }) (dC, dI) vwCl [.ref h0] [zV3 h0 r0_0 r0_1 v0_2 v0_3 r0_4 r0_5 r0_6 r0_7 v0_8 r0_9 v0_10 v0_11 v0_12 v0_13 v0_14 v0_15] [] (fun _ => True) [zV3 h0 r0_0 r0_1 o v0_3 r0_4 r0_5 r0_6 r0_7 v0_8 r0_9 v0_10 v0_11 v0_12 v0_13 v0_14 v0_15] [] sz := by
  refine zgov (cc := cX3_forget) (maxL := 1) (ret := none) (C0 := RX3) (lv0 := [(0, .ref h0)]) zpl_X3 rfl rfl rfl (Nat.le_of_ble_eq_true rfl) ?_
  intro p e s m below meth c A ls Q hx hb hr hts hown hlocks hml hP hK hD hA hS hl hQ
  unfold fn_X3_forget at hfn
  refine lv_aload_n hx hb dX3_forget_0 rfl (lv_at hl 0 rfl) ?_
  refine lv_iconst (v := 0) hx hb dX3_forget_1 zci_0 ?_
  refine va_put (D := (dC, dI)) (ci := 3) (v := .int 0) (ty := .boolean) (C := RX3) (T := TX3) (N := 16) hx hb hts zn_X3_forget_X3 tyX3 tyX3_ok nmX3 hown hK hP hD hS 0 rfl rfl 2 (of_decide_eq_true rfl) (hts (.fieldLink RX3 45 "ShortEnough$LocalSearch" "ready" "Z") zw_X3_forget_278) (fun _ h9 => h9) rfl (tyX3_ok 2 (of_decide_eq_true rfl)) rfl rfl (Nat.le_of_ble_eq_true rfl) dX3_forget_2 (fun H locs hP hD hS => ?_)
  have hP : va_P (dC, dI) vwCl [zV3 h0 r0_0 r0_1 0 v0_3 r0_4 r0_5 r0_6 r0_7 v0_8 r0_9 v0_10 v0_11 v0_12 v0_13 v0_14 v0_15] H := hP
  have hD := zDW hD hP rfl
  have ho := Option.some.inj hfn
  subst ho
  exact zrv hx hb hr hK hP hD hS hQ trivial hlocks dX3_forget_5
theorem zn_X9_finestFormat_X9 : ∀ w ∈ wsX90, w ∈ wsX9_finestFormat := fun _ h => List.mem_cons_of_mem _ (List.mem_append_right _ h)
theorem zw_X9_finestFormat_282 : Cond.fieldLink RX9 45 "ShortEnough$Task" "formats" "I" ∈ wsX9_finestFormat := List.mem_of_getElem? (i := 1) (by decide +kernel)
theorem zw_X9_finestFormat_283 : Cond.fieldLink RX9 15 "ShortEnough$Task" "step" "[I" ∈ wsX9_finestFormat := List.mem_of_getElem? (i := 2) (by decide +kernel)
set_option maxHeartbeats 4000000 in
set_option maxRecDepth 100000 in
theorem zf_X9_finestFormat (l : Launch) (dC : Nat → ClassId) (dI : Nat → Nat → Nat) (h0 : Nat) (v0_0 : Int32) (r0_1 : Nat) (r0_2 : Nat) (r0_3 : Nat) (r0_4 : Nat) (v0_5 : Int32) (r0_6 : Nat) (r0_7 : Nat) (r0_8 : Nat) (k1 : Nat) (f1 : Nat → Int32) (o : Int32) (hfn : fn_X9_finestFormat v0_0 f1 = some o) (sz : Nat) : zMi l yX9_finestFormat wsX9_finestFormat ({ frames := 0, cells := 0, slots := 0, locals := 0 }) (dC, dI) vwCl [.ref h0] [zV9 h0 v0_0 r0_1 r0_2 r0_3 r0_4 v0_5 r0_6 r0_7 r0_8, zVi r0_2 k1 4 f1] [(k1, .int)] (fun r _ => r = o) [zV9 h0 v0_0 r0_1 r0_2 r0_3 r0_4 v0_5 r0_6 r0_7 r0_8, zVi r0_2 k1 4 f1] [(k1, .int)] sz := by
  refine zgoi (cc := cX9_finestFormat) (maxL := 3) (ret := (some .int)) (C0 := RX9) (lv0 := [(0, .ref h0)]) zpl_X9 rfl rfl rfl (Nat.le_of_ble_eq_true rfl) ?_
  intro p e s m below meth c A ls Q hx hb hr hts hown hlocks hml hP hK hD hA hS hl hQ
  unfold fn_X9_finestFormat at hfn
  refine lv_iconst (v := 0) hx hb dX9_finestFormat_0 zci_0 ?_
  refine lv_istore_n (lv' := [(1, .int 0), (0, .ref h0)]) hx hb dX9_finestFormat_1 rfl hl (of_decide_eq_true rfl) rfl (fun ls hl => ?_)
  refine lv_iconst (v := 1) hx hb dX9_finestFormat_2 zci_1 ?_
  refine lv_istore_n (lv' := [(2, .int 1), (1, .int 0), (0, .ref h0)]) hx hb dX9_finestFormat_3 rfl hl (of_decide_eq_true rfl) rfl (fun ls hl => ?_)
  obtain ⟨bd_1, ebd_1, hfn⟩ := zl_g hfn
  have lp_1 : ∀ (n : Nat) (s_1 : Int32 × Int32) (H : Heap) (locs : List Loc) (ls : Array Slot), zl bd_1 n s_1 = some o → va_P (dC, dI) vwCl [zV9 h0 v0_0 r0_1 r0_2 r0_3 r0_4 v0_5 r0_6 r0_7 r0_8, zVi r0_2 k1 4 f1] H → va_D A [zV9 h0 v0_0 r0_1 r0_2 r0_3 r0_4 v0_5 r0_6 r0_7 r0_8, zVi r0_2 k1 4 f1] → va_S A s.heap H locs → lv_has ls 3 [(2, .int s_1.2), (1, .int s_1.1), (0, .ref h0)] → W p l e (headSpec wsX9_finestFormat ({ frames := 0, cells := 0, slots := 0, locals := 0 })).room s m ([.ref h0] : List Value).toArray below meth c H locs 0 0 Q (F0 m 4 ls []) := by
    intro n
    induction n with
    | zero => exact fun _ _ _ _ hfn => (zl_0 hfn).elim
    | succ n ih_1 =>
      intro s_1 H locs ls hfn hP hD hS hl
      have hfn := zl_s ebd_1 hfn
      refine lv_iload_n hx hb dX9_finestFormat_4 rfl (lv_at hl 0 rfl) ?_
      refine lv_aload_n hx hb dX9_finestFormat_5 rfl (lv_at hl 2 rfl) ?_
      refine va_get (D := (dC, dI)) (ci := 9) (v := .int v0_0) (C := RX9) (T := TX9) (N := 9) hx hb hts zn_X9_finestFormat_X9 hown hK hP 0 rfl rfl 0 (of_decide_eq_true rfl) (hts (.fieldLink RX9 45 "ShortEnough$Task" "formats" "I") zw_X9_finestFormat_282) (fun _ h9 => h9) rfl dX9_finestFormat_6 ?_
      refine lv_icmp_ge (tgt := 35) hx hb dX9_finestFormat_9 (of_decide_eq_true rfl) (fun c_2 => ?_) (fun c_2 => ?_)
      · have hfn := (if_pos c_2).symm.trans hfn
        refine lv_iload_n hx hb dX9_finestFormat_35 rfl (lv_at hl 1 rfl) ?_
        have ho := Option.some.inj hfn
        subst ho
        exact zri hx hb hr hK hP hD hS hQ rfl hlocks dX9_finestFormat_36
      have hfn := (if_neg c_2).symm.trans hfn
      refine lv_aload_n hx hb dX9_finestFormat_12 rfl (lv_at hl 2 rfl) ?_
      refine va_get (D := (dC, dI)) (ci := 9) (v := .ref r0_2) (C := RX9) (T := TX9) (N := 9) hx hb hts zn_X9_finestFormat_X9 hown hK hP 0 rfl rfl 2 (of_decide_eq_true rfl) (hts (.fieldLink RX9 15 "ShortEnough$Task" "step" "[I") zw_X9_finestFormat_283) (fun _ h9 => h9) rfl dX9_finestFormat_13 ?_
      refine lv_iload_n hx hb dX9_finestFormat_16 rfl (lv_at hl 0 rfl) ?_
      obtain ⟨h_3, hfn⟩ := zg_s hfn
      refine va_iald hx hb hK hP 1 0 rfl rfl h_3 dX9_finestFormat_17 ?_
      refine lv_aload_n hx hb dX9_finestFormat_18 rfl (lv_at hl 2 rfl) ?_
      refine va_get (D := (dC, dI)) (ci := 9) (v := .ref r0_2) (C := RX9) (T := TX9) (N := 9) hx hb hts zn_X9_finestFormat_X9 hown hK hP 0 rfl rfl 2 (of_decide_eq_true rfl) (hts (.fieldLink RX9 15 "ShortEnough$Task" "step" "[I") zw_X9_finestFormat_283) (fun _ h9 => h9) rfl dX9_finestFormat_19 ?_
      refine lv_iload_n hx hb dX9_finestFormat_22 rfl (lv_at hl 1 rfl) ?_
      obtain ⟨h_4, hfn⟩ := zg_s hfn
      refine va_iald hx hb hK hP 1 0 rfl rfl h_4 dX9_finestFormat_23 ?_
      refine lv_icmp_ge (tgt := 29) hx hb dX9_finestFormat_24 (of_decide_eq_true rfl) (fun c_5 => ?_) (fun c_5 => ?_)
      · have hfn := (if_pos c_5).symm.trans hfn
        refine lv_iinc (v := (s_1.2 + 1)) (lv' := [(2, .int (s_1.2 + 1)), (1, .int s_1.1), (0, .ref h0)]) hx hb dX9_finestFormat_29 hl (k := 0) rfl rfl (of_decide_eq_true rfl) rfl (fun ls hl => ?_)
        refine lv_goto (tgt := 4) hx hb dX9_finestFormat_32 (of_decide_eq_true rfl) ?_
        exact ih_1 (s_1.1, (s_1.2 + 1)) H locs ls hfn hP hD hS (lv_sub hl [0, 1, 2] rfl)
      have hfn := (if_neg c_5).symm.trans hfn
      refine lv_iload_n hx hb dX9_finestFormat_27 rfl (lv_at hl 0 rfl) ?_
      refine lv_istore_n (lv' := [(1, .int s_1.2), (2, .int s_1.2), (0, .ref h0)]) hx hb dX9_finestFormat_28 rfl hl (of_decide_eq_true rfl) rfl (fun ls hl => ?_)
      refine lv_iinc (v := (s_1.2 + 1)) (lv' := [(2, .int (s_1.2 + 1)), (1, .int s_1.2), (0, .ref h0)]) hx hb dX9_finestFormat_29 hl (k := 1) rfl rfl (of_decide_eq_true rfl) rfl (fun ls hl => ?_)
      refine lv_goto (tgt := 4) hx hb dX9_finestFormat_32 (of_decide_eq_true rfl) ?_
      exact ih_1 (s_1.2, (s_1.2 + 1)) H locs ls hfn hP hD hS (lv_sub hl [0, 1, 2] rfl)
  exact lp_1 _ (0, 1) s.heap [] ls hfn hP hD hS (lv_sub hl [0, 1, 2] rfl)
theorem zn_X3_findUnchanged_X9 : ∀ w ∈ wsX90, w ∈ wsX3_findUnchanged := fun _ h => List.mem_cons_of_mem _ (List.mem_append_left _ (List.mem_append_left _ (List.mem_append_right _ h)))
theorem zw_X3_findUnchanged_295 : Cond.fieldLink RX3 62 "ShortEnough$Task" "groups" "LShortEnough$Groups;" ∈ wsX3_findUnchanged := List.mem_of_getElem? (i := 1) (by decide +kernel)
theorem zn_X3_findUnchanged_X2 : ∀ w ∈ wsX20, w ∈ wsX3_findUnchanged := fun _ h => List.mem_cons_of_mem _ (List.mem_append_left _ (List.mem_append_right _ h))
theorem zw_X3_findUnchanged_297 : Cond.fieldLink RX3 112 "ShortEnough$Groups" "count" "I" ∈ wsX3_findUnchanged := List.mem_of_getElem? (i := 2) (by decide +kernel)
theorem zw_X3_findUnchanged_298 : Cond.fieldLink RX3 115 "ShortEnough$Groups" "fixedAs" "[I" ∈ wsX3_findUnchanged := List.mem_of_getElem? (i := 3) (by decide +kernel)
theorem zn_X3_findUnchanged_X3 : ∀ w ∈ wsX30, w ∈ wsX3_findUnchanged := fun _ h => List.mem_cons_of_mem _ (List.mem_append_right _ h)
theorem zw_X3_findUnchanged_300 : Cond.fieldLink RX3 22 "ShortEnough$LocalSearch" "changed" "[Z" ∈ wsX3_findUnchanged := List.mem_of_getElem? (i := 4) (by decide +kernel)
theorem zw_X3_findUnchanged_301 : Cond.fieldLink RX3 26 "ShortEnough$LocalSearch" "unchanged" "[I" ∈ wsX3_findUnchanged := List.mem_of_getElem? (i := 5) (by decide +kernel)
set_option maxHeartbeats 4000000 in
set_option maxRecDepth 100000 in
theorem zf_X3_findUnchanged (l : Launch) (dC : Nat → ClassId) (dI : Nat → Nat → Nat) (h0 : Nat) (h1 : Nat) (r0_0 : Nat) (r0_1 : Nat) (v0_2 : Int32) (v0_3 : Int32) (r0_4 : Nat) (r0_5 : Nat) (r0_6 : Nat) (r0_7 : Nat) (v0_8 : Int32) (r0_9 : Nat) (v0_10 : Int32) (v0_11 : Int32) (v0_12 : Int32) (v0_13 : Int32) (v0_14 : Int32) (v0_15 : Int32) (v1_0 : Int32) (r1_1 : Nat) (r1_2 : Nat) (r1_3 : Nat) (r1_4 : Nat) (v1_5 : Int32) (r1_6 : Nat) (r1_7 : Nat) (r1_8 : Nat) (v2_0 : Int32) (v2_1 : Int32) (v2_2 : Int32) (r2_3 : Nat) (r2_4 : Nat) (r2_5 : Nat) (k3 : Nat) (f3 : Nat → Int32) (k4 : Nat) (f4 : Nat → Int32) (k5 : Nat) (f5 : Nat → Int32) (o : Int32 × (Nat → Int32)) (hfn : fn_X3_findUnchanged v2_0 f3 f4 f5 = some o) (sz : Nat) : zMi l yX3_findUnchanged wsX3_findUnchanged ({ frames := 0, cells := 0, slots := 0, locals := 0 }) (dC, dI) vwCl [.ref h0, .ref h1] [zV3 h0 r0_0 r0_1 v0_2 v0_3 r0_4 r0_5 r0_6 r0_7 v0_8 r0_9 v0_10 v0_11 v0_12 v0_13 v0_14 v0_15, zV9 h1 v1_0 r1_1 r1_2 r1_3 r1_4 v1_5 r1_6 r1_7 r1_8, zV2 r1_7 v2_0 v2_1 v2_2 r2_3 r2_4 r2_5, zVi r2_4 k3 14 f3, zVi r0_4 k4 14 f4, zVi r0_5 k5 14 f5] [(k3, .int), (k4, .boolean), (k5, .int)] (fun r _ => r = o.1) [zV3 h0 r0_0 r0_1 v0_2 v0_3 r0_4 r0_5 r0_6 r0_7 v0_8 r0_9 v0_10 v0_11 v0_12 v0_13 v0_14 v0_15, zV9 h1 v1_0 r1_1 r1_2 r1_3 r1_4 v1_5 r1_6 r1_7 r1_8, zV2 r1_7 v2_0 v2_1 v2_2 r2_3 r2_4 r2_5, zVi r2_4 k3 14 f3, zVi r0_4 k4 14 f4, zVi r0_5 k5 14 o.2] [(k3, .int), (k4, .boolean), (k5, .int)] sz := by
  refine zgoi (cc := cX3_findUnchanged) (maxL := 4) (ret := (some .int)) (C0 := RX3) (lv0 := [(0, .ref h0), (1, .ref h1)]) zpl_X3 rfl rfl rfl (Nat.le_of_ble_eq_true rfl) ?_
  intro p e s m below meth c A ls Q hx hb hr hts hown hlocks hml hP hK hD hA hS hl hQ
  unfold fn_X3_findUnchanged at hfn
  refine lv_iconst (v := 0) hx hb dX3_findUnchanged_0 zci_0 ?_
  refine lv_istore_n (lv' := [(2, .int 0), (0, .ref h0), (1, .ref h1)]) hx hb dX3_findUnchanged_1 rfl hl (of_decide_eq_true rfl) rfl (fun ls hl => ?_)
  refine lv_iconst (v := 0) hx hb dX3_findUnchanged_2 zci_0 ?_
  refine lv_istore_n (lv' := [(3, .int 0), (2, .int 0), (0, .ref h0), (1, .ref h1)]) hx hb dX3_findUnchanged_3 rfl hl (of_decide_eq_true rfl) rfl (fun ls hl => ?_)
  obtain ⟨bd_1, ebd_1, hfn⟩ := zl_g hfn
  have lp_1 : ∀ (n : Nat) (s_1 : Int32 × Int32 × (Nat → Int32)) (H : Heap) (locs : List Loc) (ls : Array Slot), zl bd_1 n s_1 = some o → va_P (dC, dI) vwCl [zV3 h0 r0_0 r0_1 v0_2 v0_3 r0_4 r0_5 r0_6 r0_7 v0_8 r0_9 v0_10 v0_11 v0_12 v0_13 v0_14 v0_15, zV9 h1 v1_0 r1_1 r1_2 r1_3 r1_4 v1_5 r1_6 r1_7 r1_8, zV2 r1_7 v2_0 v2_1 v2_2 r2_3 r2_4 r2_5, zVi r2_4 k3 14 f3, zVi r0_4 k4 14 f4, zVi r0_5 k5 14 s_1.2.2] H → va_D A [zV3 h0 r0_0 r0_1 v0_2 v0_3 r0_4 r0_5 r0_6 r0_7 v0_8 r0_9 v0_10 v0_11 v0_12 v0_13 v0_14 v0_15, zV9 h1 v1_0 r1_1 r1_2 r1_3 r1_4 v1_5 r1_6 r1_7 r1_8, zV2 r1_7 v2_0 v2_1 v2_2 r2_3 r2_4 r2_5, zVi r2_4 k3 14 f3, zVi r0_4 k4 14 f4, zVi r0_5 k5 14 s_1.2.2] → va_S A s.heap H locs → lv_has ls 4 [(3, .int s_1.2.1), (2, .int s_1.1), (0, .ref h0), (1, .ref h1)] → W p l e (headSpec wsX3_findUnchanged ({ frames := 0, cells := 0, slots := 0, locals := 0 })).room s m ([.ref h0, .ref h1] : List Value).toArray below meth c H locs 0 0 Q (F0 m 4 ls []) := by
    intro n
    induction n with
    | zero => exact fun _ _ _ _ hfn => (zl_0 hfn).elim
    | succ n ih_1 =>
      intro s_1 H locs ls hfn hP hD hS hl
      have hfn := zl_s ebd_1 hfn
      refine lv_iload_n hx hb dX3_findUnchanged_4 rfl (lv_at hl 0 rfl) ?_
      refine lv_aload_n hx hb dX3_findUnchanged_5 rfl (lv_at hl 3 rfl) ?_
      refine va_get (D := (dC, dI)) (ci := 9) (v := .ref r1_7) (C := RX9) (T := TX9) (N := 9) hx hb hts zn_X3_findUnchanged_X9 hown hK hP 1 rfl rfl 7 (of_decide_eq_true rfl) (hts (.fieldLink RX3 62 "ShortEnough$Task" "groups" "LShortEnough$Groups;") zw_X3_findUnchanged_295) (fun _ h9 => h9) rfl dX3_findUnchanged_6 ?_
      refine va_get (D := (dC, dI)) (ci := 2) (v := .int v2_0) (C := RX2) (T := TX2) (N := 6) hx hb hts zn_X3_findUnchanged_X2 hown hK hP 2 rfl rfl 0 (of_decide_eq_true rfl) (hts (.fieldLink RX3 112 "ShortEnough$Groups" "count" "I") zw_X3_findUnchanged_297) (fun _ h9 => h9) rfl dX3_findUnchanged_9 ?_
      refine lv_icmp_ge (tgt := 53) hx hb dX3_findUnchanged_12 (of_decide_eq_true rfl) (fun c_2 => ?_) (fun c_2 => ?_)
      · have hfn := (if_pos c_2).symm.trans hfn
        refine lv_iload_n hx hb dX3_findUnchanged_53 rfl (lv_at hl 1 rfl) ?_
        have ho := Option.some.inj hfn
        subst ho
        exact zri hx hb hr hK hP hD hS hQ rfl hlocks dX3_findUnchanged_54
      have hfn := (if_neg c_2).symm.trans hfn
      refine lv_aload_n hx hb dX3_findUnchanged_15 rfl (lv_at hl 3 rfl) ?_
      refine va_get (D := (dC, dI)) (ci := 9) (v := .ref r1_7) (C := RX9) (T := TX9) (N := 9) hx hb hts zn_X3_findUnchanged_X9 hown hK hP 1 rfl rfl 7 (of_decide_eq_true rfl) (hts (.fieldLink RX3 62 "ShortEnough$Task" "groups" "LShortEnough$Groups;") zw_X3_findUnchanged_295) (fun _ h9 => h9) rfl dX3_findUnchanged_16 ?_
      refine va_get (D := (dC, dI)) (ci := 2) (v := .ref r2_4) (C := RX2) (T := TX2) (N := 6) hx hb hts zn_X3_findUnchanged_X2 hown hK hP 2 rfl rfl 4 (of_decide_eq_true rfl) (hts (.fieldLink RX3 115 "ShortEnough$Groups" "fixedAs" "[I") zw_X3_findUnchanged_298) (fun _ h9 => h9) rfl dX3_findUnchanged_19 ?_
      refine lv_iload_n hx hb dX3_findUnchanged_22 rfl (lv_at hl 0 rfl) ?_
      obtain ⟨h_3, hfn⟩ := zg_s hfn
      refine va_iald hx hb hK hP 3 0 rfl rfl h_3 dX3_findUnchanged_23 ?_
      refine lv_iconst (v := (-1)) hx hb dX3_findUnchanged_24 zci_m1 ?_
      refine lv_icmp_ne (tgt := 47) hx hb dX3_findUnchanged_25 (of_decide_eq_true rfl) (fun c_4 => ?_) (fun c_4 => ?_)
      · have hfn := (if_neg c_4).symm.trans hfn
        refine lv_iinc (v := (s_1.2.1 + 1)) (lv' := [(3, .int (s_1.2.1 + 1)), (2, .int s_1.1), (0, .ref h0), (1, .ref h1)]) hx hb dX3_findUnchanged_47 hl (k := 0) rfl rfl (of_decide_eq_true rfl) rfl (fun ls hl => ?_)
        refine lv_goto (tgt := 4) hx hb dX3_findUnchanged_50 (of_decide_eq_true rfl) ?_
        exact ih_1 (s_1.1, (s_1.2.1 + 1), s_1.2.2) H locs ls hfn hP hD hS (lv_sub hl [0, 1, 2, 3] rfl)
      have hfn := (if_pos c_4).symm.trans hfn
      refine lv_aload_n hx hb dX3_findUnchanged_28 rfl (lv_at hl 2 rfl) ?_
      refine va_get (D := (dC, dI)) (ci := 3) (v := .ref r0_4) (C := RX3) (T := TX3) (N := 16) hx hb hts zn_X3_findUnchanged_X3 hown hK hP 0 rfl rfl 4 (of_decide_eq_true rfl) (hts (.fieldLink RX3 22 "ShortEnough$LocalSearch" "changed" "[Z") zw_X3_findUnchanged_300) (fun _ h9 => h9) rfl dX3_findUnchanged_29 ?_
      refine lv_iload_n hx hb dX3_findUnchanged_32 rfl (lv_at hl 0 rfl) ?_
      refine va_zald hx hb hK hP 4 1 rfl rfl h_3 dX3_findUnchanged_33 ?_
      refine lv_if_ne (tgt := 47) hx hb dX3_findUnchanged_34 (of_decide_eq_true rfl) (fun c_5 => ?_) (fun c_5 => ?_)
      · have hfn := (if_neg c_5).symm.trans hfn
        refine lv_iinc (v := (s_1.2.1 + 1)) (lv' := [(3, .int (s_1.2.1 + 1)), (2, .int s_1.1), (0, .ref h0), (1, .ref h1)]) hx hb dX3_findUnchanged_47 hl (k := 0) rfl rfl (of_decide_eq_true rfl) rfl (fun ls hl => ?_)
        refine lv_goto (tgt := 4) hx hb dX3_findUnchanged_50 (of_decide_eq_true rfl) ?_
        exact ih_1 (s_1.1, (s_1.2.1 + 1), s_1.2.2) H locs ls hfn hP hD hS (lv_sub hl [0, 1, 2, 3] rfl)
      have hfn := (if_pos c_5).symm.trans hfn
      refine lv_aload_n hx hb dX3_findUnchanged_37 rfl (lv_at hl 2 rfl) ?_
      refine va_get (D := (dC, dI)) (ci := 3) (v := .ref r0_5) (C := RX3) (T := TX3) (N := 16) hx hb hts zn_X3_findUnchanged_X3 hown hK hP 0 rfl rfl 5 (of_decide_eq_true rfl) (hts (.fieldLink RX3 26 "ShortEnough$LocalSearch" "unchanged" "[I") zw_X3_findUnchanged_301) (fun _ h9 => h9) rfl dX3_findUnchanged_38 ?_
      refine lv_iload_n hx hb dX3_findUnchanged_41 rfl (lv_at hl 1 rfl) ?_
      refine lv_iload_n hx hb dX3_findUnchanged_42 rfl (lv_at hl 0 rfl) ?_
      obtain ⟨h_6, hfn⟩ := zg_s hfn
      refine va_iast hx hb hK hP hD hS 5 2 rfl rfl h_6 dX3_findUnchanged_43 (fun H locs hP hD hS => ?_)
      have hP : va_P (dC, dI) vwCl [zV3 h0 r0_0 r0_1 v0_2 v0_3 r0_4 r0_5 r0_6 r0_7 v0_8 r0_9 v0_10 v0_11 v0_12 v0_13 v0_14 v0_15, zV9 h1 v1_0 r1_1 r1_2 r1_3 r1_4 v1_5 r1_6 r1_7 r1_8, zV2 r1_7 v2_0 v2_1 v2_2 r2_3 r2_4 r2_5, zVi r2_4 k3 14 f3, zVi r0_4 k4 14 f4, zVi r0_5 k5 14 (upd s_1.2.2 s_1.1.toNatClampNeg s_1.2.1)] H := hP
      have hD := zDW hD hP rfl
      refine lv_iinc (v := (s_1.1 + 1)) (lv' := [(2, .int (s_1.1 + 1)), (3, .int s_1.2.1), (0, .ref h0), (1, .ref h1)]) hx hb dX3_findUnchanged_44 hl (k := 1) rfl rfl (of_decide_eq_true rfl) rfl (fun ls hl => ?_)
      refine lv_iinc (v := (s_1.2.1 + 1)) (lv' := [(3, .int (s_1.2.1 + 1)), (2, .int (s_1.1 + 1)), (0, .ref h0), (1, .ref h1)]) hx hb dX3_findUnchanged_47 hl (k := 1) rfl rfl (of_decide_eq_true rfl) rfl (fun ls hl => ?_)
      refine lv_goto (tgt := 4) hx hb dX3_findUnchanged_50 (of_decide_eq_true rfl) ?_
      exact ih_1 ((s_1.1 + 1), (s_1.2.1 + 1), (upd s_1.2.2 s_1.1.toNatClampNeg s_1.2.1)) H locs ls hfn hP hD hS (lv_sub hl [0, 1, 2, 3] rfl)
  exact lp_1 _ (0, 0, f5) s.heap [] ls hfn hP hD hS (lv_sub hl [0, 1, 2, 3] rfl)
theorem zn_X3_addPart_X3 : ∀ w ∈ wsX30, w ∈ wsX3_addPart := fun _ h => List.mem_cons_of_mem _ (List.mem_append_right _ h)
theorem zw_X3_addPart_305 : Cond.fieldLink RX3 101 "ShortEnough$LocalSearch" "parts" "I" ∈ wsX3_addPart := List.mem_of_getElem? (i := 1) (by decide +kernel)
theorem zw_X3_addPart_306 : Cond.fieldLink RX3 29 "ShortEnough$LocalSearch" "partFrom" "[I" ∈ wsX3_addPart := List.mem_of_getElem? (i := 2) (by decide +kernel)
theorem zw_X3_addPart_307 : Cond.fieldLink RX3 32 "ShortEnough$LocalSearch" "partTo" "[I" ∈ wsX3_addPart := List.mem_of_getElem? (i := 3) (by decide +kernel)
set_option maxHeartbeats 4000000 in
set_option maxRecDepth 100000 in
theorem zf_X3_addPart (l : Launch) (dC : Nat → ClassId) (dI : Nat → Nat → Nat) (h0 : Nat) (p1 : Int32) (p2 : Int32) (r0_0 : Nat) (r0_1 : Nat) (v0_2 : Int32) (v0_3 : Int32) (r0_4 : Nat) (r0_5 : Nat) (r0_6 : Nat) (r0_7 : Nat) (v0_8 : Int32) (r0_9 : Nat) (v0_10 : Int32) (v0_11 : Int32) (v0_12 : Int32) (v0_13 : Int32) (v0_14 : Int32) (v0_15 : Int32) (k1 : Nat) (f1 : Nat → Int32) (k2 : Nat) (f2 : Nat → Int32) (o : Int32 × (Nat → Int32) × (Nat → Int32)) (hfn : fn_X3_addPart p1 p2 v0_8 f1 f2 = some o) (sz : Nat) : zMv l yX3_addPart wsX3_addPart ({ frames := 0, cells := 0, slots := 0, locals := 0 }) (dC, dI) vwCl [.ref h0, .int p1, .int p2] [zV3 h0 r0_0 r0_1 v0_2 v0_3 r0_4 r0_5 r0_6 r0_7 v0_8 r0_9 v0_10 v0_11 v0_12 v0_13 v0_14 v0_15, zVi r0_6 k1 28 f1, zVi r0_7 k2 28 f2] [(k1, .int), (k2, .int)] (fun _ => True) [zV3 h0 r0_0 r0_1 v0_2 v0_3 r0_4 r0_5 r0_6 r0_7 o.1 r0_9 v0_10 v0_11 v0_12 v0_13 v0_14 v0_15, zVi r0_6 k1 28 o.2.1, zVi r0_7 k2 28 o.2.2] [(k1, .int), (k2, .int)] sz := by
  refine zgov (cc := cX3_addPart) (maxL := 3) (ret := none) (C0 := RX3) (lv0 := [(0, .ref h0), (1, .int p1), (2, .int p2)]) zpl_X3 rfl rfl rfl (Nat.le_of_ble_eq_true rfl) ?_
  intro p e s m below meth c A ls Q hx hb hr hts hown hlocks hml hP hK hD hA hS hl hQ
  unfold fn_X3_addPart at hfn
  refine lv_aload_n hx hb dX3_addPart_0 rfl (lv_at hl 0 rfl) ?_
  refine va_get (D := (dC, dI)) (ci := 3) (v := .int v0_8) (C := RX3) (T := TX3) (N := 16) hx hb hts zn_X3_addPart_X3 hown hK hP 0 rfl rfl 8 (of_decide_eq_true rfl) (hts (.fieldLink RX3 101 "ShortEnough$LocalSearch" "parts" "I") zw_X3_addPart_305) (fun _ h9 => h9) rfl dX3_addPart_1 ?_
  refine lv_bipush (v := 28) hx hb dX3_addPart_4 zcb_28 ?_
  refine lv_icmp_ge (tgt := 39) hx hb dX3_addPart_6 (of_decide_eq_true rfl) (fun c_1 => ?_) (fun c_1 => ?_)
  · have hfn := (if_pos c_1).symm.trans hfn
    have ho := Option.some.inj hfn
    subst ho
    exact zrv hx hb hr hK hP hD hS hQ trivial hlocks dX3_addPart_39
  have hfn := (if_neg c_1).symm.trans hfn
  refine lv_aload_n hx hb dX3_addPart_9 rfl (lv_at hl 0 rfl) ?_
  refine va_get (D := (dC, dI)) (ci := 3) (v := .ref r0_6) (C := RX3) (T := TX3) (N := 16) hx hb hts zn_X3_addPart_X3 hown hK hP 0 rfl rfl 6 (of_decide_eq_true rfl) (hts (.fieldLink RX3 29 "ShortEnough$LocalSearch" "partFrom" "[I") zw_X3_addPart_306) (fun _ h9 => h9) rfl dX3_addPart_10 ?_
  refine lv_aload_n hx hb dX3_addPart_13 rfl (lv_at hl 0 rfl) ?_
  refine va_get (D := (dC, dI)) (ci := 3) (v := .int v0_8) (C := RX3) (T := TX3) (N := 16) hx hb hts zn_X3_addPart_X3 hown hK hP 0 rfl rfl 8 (of_decide_eq_true rfl) (hts (.fieldLink RX3 101 "ShortEnough$LocalSearch" "parts" "I") zw_X3_addPart_305) (fun _ h9 => h9) rfl dX3_addPart_14 ?_
  refine lv_iload_n hx hb dX3_addPart_17 rfl (lv_at hl 1 rfl) ?_
  obtain ⟨h_2, hfn⟩ := zg_s hfn
  refine va_iast hx hb hK hP hD hS 1 0 rfl rfl h_2 dX3_addPart_18 (fun H locs hP hD hS => ?_)
  have hP : va_P (dC, dI) vwCl [zV3 h0 r0_0 r0_1 v0_2 v0_3 r0_4 r0_5 r0_6 r0_7 v0_8 r0_9 v0_10 v0_11 v0_12 v0_13 v0_14 v0_15, zVi r0_6 k1 28 (upd f1 v0_8.toNatClampNeg p1), zVi r0_7 k2 28 f2] H := hP
  have hD := zDW hD hP rfl
  refine lv_aload_n hx hb dX3_addPart_19 rfl (lv_at hl 0 rfl) ?_
  refine va_get (D := (dC, dI)) (ci := 3) (v := .ref r0_7) (C := RX3) (T := TX3) (N := 16) hx hb hts zn_X3_addPart_X3 hown hK hP 0 rfl rfl 7 (of_decide_eq_true rfl) (hts (.fieldLink RX3 32 "ShortEnough$LocalSearch" "partTo" "[I") zw_X3_addPart_307) (fun _ h9 => h9) rfl dX3_addPart_20 ?_
  refine lv_aload_n hx hb dX3_addPart_23 rfl (lv_at hl 0 rfl) ?_
  refine va_get (D := (dC, dI)) (ci := 3) (v := .int v0_8) (C := RX3) (T := TX3) (N := 16) hx hb hts zn_X3_addPart_X3 hown hK hP 0 rfl rfl 8 (of_decide_eq_true rfl) (hts (.fieldLink RX3 101 "ShortEnough$LocalSearch" "parts" "I") zw_X3_addPart_305) (fun _ h9 => h9) rfl dX3_addPart_24 ?_
  refine lv_iload_n hx hb dX3_addPart_27 rfl (lv_at hl 2 rfl) ?_
  refine va_iast hx hb hK hP hD hS 2 1 rfl rfl h_2 dX3_addPart_28 (fun H locs hP hD hS => ?_)
  have hP : va_P (dC, dI) vwCl [zV3 h0 r0_0 r0_1 v0_2 v0_3 r0_4 r0_5 r0_6 r0_7 v0_8 r0_9 v0_10 v0_11 v0_12 v0_13 v0_14 v0_15, zVi r0_6 k1 28 (upd f1 v0_8.toNatClampNeg p1), zVi r0_7 k2 28 (upd f2 v0_8.toNatClampNeg p2)] H := hP
  have hD := zDW hD hP rfl
  refine lv_aload_n hx hb dX3_addPart_29 rfl (lv_at hl 0 rfl) ?_
  refine lv_dup hx hb dX3_addPart_30 rfl ?_
  refine va_get (D := (dC, dI)) (ci := 3) (v := .int v0_8) (C := RX3) (T := TX3) (N := 16) hx hb hts zn_X3_addPart_X3 hown hK hP 0 rfl rfl 8 (of_decide_eq_true rfl) (hts (.fieldLink RX3 101 "ShortEnough$LocalSearch" "parts" "I") zw_X3_addPart_305) (fun _ h9 => h9) rfl dX3_addPart_31 ?_
  refine lv_iconst (v := 1) hx hb dX3_addPart_34 zci_1 ?_
  refine lv_iadd hx hb dX3_addPart_35 ?_
  refine va_put (D := (dC, dI)) (ci := 3) (v := .int (v0_8 + 1)) (ty := .int) (C := RX3) (T := TX3) (N := 16) hx hb hts zn_X3_addPart_X3 tyX3 tyX3_ok nmX3 hown hK hP hD hS 0 rfl rfl 8 (of_decide_eq_true rfl) (hts (.fieldLink RX3 101 "ShortEnough$LocalSearch" "parts" "I") zw_X3_addPart_305) (fun _ h9 => h9) rfl (tyX3_ok 8 (of_decide_eq_true rfl)) rfl rfl (Nat.le_of_ble_eq_true rfl) dX3_addPart_36 (fun H locs hP hD hS => ?_)
  have hP : va_P (dC, dI) vwCl [zV3 h0 r0_0 r0_1 v0_2 v0_3 r0_4 r0_5 r0_6 r0_7 (v0_8 + 1) r0_9 v0_10 v0_11 v0_12 v0_13 v0_14 v0_15, zVi r0_6 k1 28 (upd f1 v0_8.toNatClampNeg p1), zVi r0_7 k2 28 (upd f2 v0_8.toNatClampNeg p2)] H := hP
  have hD := zDW hD hP rfl
  have ho := Option.some.inj hfn
  subst ho
  exact zrv hx hb hr hK hP hD hS hQ trivial hlocks dX3_addPart_39
theorem zn_X3_setPart_X3 : ∀ w ∈ wsX30, w ∈ wsX3_setPart := fun _ h => List.mem_cons_of_mem _ (List.mem_append_right _ h)
theorem zw_X3_setPart_312 : Cond.fieldLink RX3 35 "ShortEnough$LocalSearch" "row" "[I" ∈ wsX3_setPart := List.mem_of_getElem? (i := 1) (by decide +kernel)
theorem zw_X3_setPart_313 : Cond.fieldLink RX3 26 "ShortEnough$LocalSearch" "unchanged" "[I" ∈ wsX3_setPart := List.mem_of_getElem? (i := 2) (by decide +kernel)
set_option maxHeartbeats 4000000 in
set_option maxRecDepth 100000 in
theorem zf_X3_setPart (l : Launch) (dC : Nat → ClassId) (dI : Nat → Nat → Nat) (h0 : Nat) (p1 : Int32) (p2 : Int32) (p3 : Int32) (r0_0 : Nat) (r0_1 : Nat) (v0_2 : Int32) (v0_3 : Int32) (r0_4 : Nat) (r0_5 : Nat) (r0_6 : Nat) (r0_7 : Nat) (v0_8 : Int32) (r0_9 : Nat) (v0_10 : Int32) (v0_11 : Int32) (v0_12 : Int32) (v0_13 : Int32) (v0_14 : Int32) (v0_15 : Int32) (k1 : Nat) (f1 : Nat → Int32) (k2 : Nat) (f2 : Nat → Int32) (o : (Nat → Int32)) (hfn : fn_X3_setPart p1 p2 p3 f1 f2 = some o) (sz : Nat) : zMv l yX3_setPart wsX3_setPart ({ frames := 0, cells := 0, slots := 0, locals := 0 }) (dC, dI) vwCl [.ref h0, .int p1, .int p2, .int p3] [zV3 h0 r0_0 r0_1 v0_2 v0_3 r0_4 r0_5 r0_6 r0_7 v0_8 r0_9 v0_10 v0_11 v0_12 v0_13 v0_14 v0_15, zVi r0_5 k1 14 f1, zVi r0_9 k2 14 f2] [(k1, .int), (k2, .int)] (fun _ => True) [zV3 h0 r0_0 r0_1 v0_2 v0_3 r0_4 r0_5 r0_6 r0_7 v0_8 r0_9 v0_10 v0_11 v0_12 v0_13 v0_14 v0_15, zVi r0_5 k1 14 f1, zVi r0_9 k2 14 o] [(k1, .int), (k2, .int)] sz := by
  refine zgov (cc := cX3_setPart) (maxL := 5) (ret := none) (C0 := RX3) (lv0 := [(0, .ref h0), (1, .int p1), (2, .int p2), (3, .int p3)]) zpl_X3 rfl rfl rfl (Nat.le_of_ble_eq_true rfl) ?_
  intro p e s m below meth c A ls Q hx hb hr hts hown hlocks hml hP hK hD hA hS hl hQ
  unfold fn_X3_setPart at hfn
  refine lv_iload_n hx hb dX3_setPart_0 rfl (lv_at hl 1 rfl) ?_
  refine lv_istore (lv' := [(4, .int p1), (0, .ref h0), (1, .int p1), (2, .int p2), (3, .int p3)]) hx hb dX3_setPart_1 hl (of_decide_eq_true rfl) rfl (fun ls hl => ?_)
  obtain ⟨bd_1, ebd_1, hfn⟩ := zl_g hfn
  have lp_1 : ∀ (n : Nat) (s_1 : Int32 × (Nat → Int32)) (H : Heap) (locs : List Loc) (ls : Array Slot), zl bd_1 n s_1 = some o → va_P (dC, dI) vwCl [zV3 h0 r0_0 r0_1 v0_2 v0_3 r0_4 r0_5 r0_6 r0_7 v0_8 r0_9 v0_10 v0_11 v0_12 v0_13 v0_14 v0_15, zVi r0_5 k1 14 f1, zVi r0_9 k2 14 s_1.2] H → va_D A [zV3 h0 r0_0 r0_1 v0_2 v0_3 r0_4 r0_5 r0_6 r0_7 v0_8 r0_9 v0_10 v0_11 v0_12 v0_13 v0_14 v0_15, zVi r0_5 k1 14 f1, zVi r0_9 k2 14 s_1.2] → va_S A s.heap H locs → lv_has ls 5 [(4, .int s_1.1), (0, .ref h0), (2, .int p2), (3, .int p3)] → W p l e (headSpec wsX3_setPart ({ frames := 0, cells := 0, slots := 0, locals := 0 })).room s m ([.ref h0, .int p1, .int p2, .int p3] : List Value).toArray below meth c H locs 0 0 Q (F0 m 3 ls []) := by
    intro n
    induction n with
    | zero => exact fun _ _ _ _ hfn => (zl_0 hfn).elim
    | succ n ih_1 =>
      intro s_1 H locs ls hfn hP hD hS hl
      have hfn := zl_s ebd_1 hfn
      refine lv_iload hx hb dX3_setPart_3 (lv_at hl 0 rfl) ?_
      refine lv_iload_n hx hb dX3_setPart_5 rfl (lv_at hl 2 rfl) ?_
      refine lv_icmp_ge (tgt := 28) hx hb dX3_setPart_6 (of_decide_eq_true rfl) (fun c_2 => ?_) (fun c_2 => ?_)
      · have hfn := (if_pos c_2).symm.trans hfn
        have ho := Option.some.inj hfn
        subst ho
        exact zrv hx hb hr hK hP hD hS hQ trivial hlocks dX3_setPart_28
      have hfn := (if_neg c_2).symm.trans hfn
      refine lv_aload_n hx hb dX3_setPart_9 rfl (lv_at hl 1 rfl) ?_
      refine va_get (D := (dC, dI)) (ci := 3) (v := .ref r0_9) (C := RX3) (T := TX3) (N := 16) hx hb hts zn_X3_setPart_X3 hown hK hP 0 rfl rfl 9 (of_decide_eq_true rfl) (hts (.fieldLink RX3 35 "ShortEnough$LocalSearch" "row" "[I") zw_X3_setPart_312) (fun _ h9 => h9) rfl dX3_setPart_10 ?_
      refine lv_aload_n hx hb dX3_setPart_13 rfl (lv_at hl 1 rfl) ?_
      refine va_get (D := (dC, dI)) (ci := 3) (v := .ref r0_5) (C := RX3) (T := TX3) (N := 16) hx hb hts zn_X3_setPart_X3 hown hK hP 0 rfl rfl 5 (of_decide_eq_true rfl) (hts (.fieldLink RX3 26 "ShortEnough$LocalSearch" "unchanged" "[I") zw_X3_setPart_313) (fun _ h9 => h9) rfl dX3_setPart_14 ?_
      refine lv_iload hx hb dX3_setPart_17 (lv_at hl 0 rfl) ?_
      obtain ⟨h_3, hfn⟩ := zg_s hfn
      refine va_iald hx hb hK hP 1 0 rfl rfl h_3 dX3_setPart_19 ?_
      refine lv_iload_n hx hb dX3_setPart_20 rfl (lv_at hl 3 rfl) ?_
      obtain ⟨h_4, hfn⟩ := zg_s hfn
      refine va_iast hx hb hK hP hD hS 2 1 rfl rfl h_4 dX3_setPart_21 (fun H locs hP hD hS => ?_)
      have hP : va_P (dC, dI) vwCl [zV3 h0 r0_0 r0_1 v0_2 v0_3 r0_4 r0_5 r0_6 r0_7 v0_8 r0_9 v0_10 v0_11 v0_12 v0_13 v0_14 v0_15, zVi r0_5 k1 14 f1, zVi r0_9 k2 14 (upd s_1.2 (f1 s_1.1.toNatClampNeg).toNatClampNeg p3)] H := hP
      have hD := zDW hD hP rfl
      refine lv_iinc (v := (s_1.1 + 1)) (lv' := [(4, .int (s_1.1 + 1)), (0, .ref h0), (2, .int p2), (3, .int p3)]) hx hb dX3_setPart_22 hl (k := 0) rfl rfl (of_decide_eq_true rfl) rfl (fun ls hl => ?_)
      refine lv_goto (tgt := 3) hx hb dX3_setPart_25 (of_decide_eq_true rfl) ?_
      exact ih_1 ((s_1.1 + 1), (upd s_1.2 (f1 s_1.1.toNatClampNeg).toNatClampNeg p3)) H locs ls hfn hP hD hS (lv_sub hl [0, 1, 2, 3] rfl)
  exact lp_1 _ (p1, f2) s.heap [] ls hfn hP hD hS (lv_sub hl [0, 1, 3, 4] rfl)
theorem zn_X3_changePart_X3 : ∀ w ∈ wsX30, w ∈ wsX3_changePart := fun _ h => List.mem_cons_of_mem _ (List.mem_append_left _ (List.mem_append_left _ (List.mem_append_left _ (List.mem_append_left _ (List.mem_append_left _ (List.mem_append_right _ h))))))
theorem zw_X3_changePart_315 : Cond.fieldLink RX3 35 "ShortEnough$LocalSearch" "row" "[I" ∈ wsX3_changePart := List.mem_of_getElem? (i := 1) (by decide +kernel)
theorem zw_X3_changePart_316 : Cond.fieldLink RX3 87 "ShortEnough$LocalSearch" "price" "I" ∈ wsX3_changePart := List.mem_of_getElem? (i := 2) (by decide +kernel)
theorem zw_X3_changePart_317 : Cond.fieldLink RX3 12 "ShortEnough$LocalSearch" "reckoning" "LShortEnough$Reckoning;" ∈ wsX3_changePart := List.mem_of_getElem? (i := 3) (by decide +kernel)
theorem zn_X3_changePart_X9 : ∀ w ∈ wsX90, w ∈ wsX3_changePart := fun _ h => List.mem_cons_of_mem _ (List.mem_append_left _ (List.mem_append_left _ (List.mem_append_left _ (List.mem_append_left _ (List.mem_append_right _ h)))))
theorem zw_X3_changePart_319 : Cond.fieldLink RX3 75 "ShortEnough$Task" "ranges" "LShortEnough$Ranges;" ∈ wsX3_changePart := List.mem_of_getElem? (i := 4) (by decide +kernel)
theorem zw_X3_changePart_320 : Cond.fieldLink RX3 22 "ShortEnough$LocalSearch" "changed" "[Z" ∈ wsX3_changePart := List.mem_of_getElem? (i := 5) (by decide +kernel)
theorem zw_X3_changePart_321 : Cond.fieldLink RX3 26 "ShortEnough$LocalSearch" "unchanged" "[I" ∈ wsX3_changePart := List.mem_of_getElem? (i := 6) (by decide +kernel)
set_option maxHeartbeats 4000000 in
set_option maxRecDepth 100000 in
theorem zf_X3_changePart (l : Launch) (dC : Nat → ClassId) (dI : Nat → Nat → Nat) (h0 : Nat) (h1 : Nat) (p2 : Int32) (p3 : Int32) (p4 : Int32) (p5 : Int32) (r0_0 : Nat) (r0_1 : Nat) (v0_2 : Int32) (v0_3 : Int32) (r0_4 : Nat) (r0_5 : Nat) (r0_6 : Nat) (r0_7 : Nat) (v0_8 : Int32) (r0_9 : Nat) (v0_10 : Int32) (v0_11 : Int32) (v0_12 : Int32) (v0_13 : Int32) (v0_14 : Int32) (v0_15 : Int32) (k1 : Nat) (f1 : Nat → Int32) (k2 : Nat) (f2 : Nat → Int32) (v3_0 : Int32) (r3_1 : Nat) (r3_2 : Nat) (r3_3 : Nat) (r3_4 : Nat) (v3_5 : Int32) (r3_6 : Nat) (r3_7 : Nat) (r3_8 : Nat) (v4_0 : Int32) (v4_1 : Int32) (r4_2 : Nat) (r4_3 : Nat) (r4_4 : Nat) (r4_5 : Nat) (r4_6 : Nat) (r4_7 : Nat) (r4_8 : Nat) (r4_9 : Nat) (k5 : Nat) (f5 : Nat → Int32) (v6_0 : Int32) (v6_1 : Int32) (v6_2 : Int32) (r6_3 : Nat) (r6_4 : Nat) (r6_5 : Nat) (k7 : Nat) (f7 : Nat → Int32) (k8 : Nat) (f8 : Nat → Int32) (r9_0 : Nat) (v9_1 : Int32) (v9_2 : Int32) (k10 : Nat) (f10 : Nat → Int32) (k11 : Nat) (f11 : Nat → Int32) (k12 : Nat) (f12 : Nat → Int64) (k13 : Nat) (f13 : Nat → Int32) (r14_0 : Nat) (r14_1 : Nat) (r14_2 : Nat) (k15 : Nat) (f15 : Nat → Int64) (k16 : Nat) (f16 : Nat → Int64) (k17 : Nat) (f17 : Nat → Int32) (k18 : Nat) (f18 : Nat → Int32) (k19 : Nat) (f19 : Nat → Int32) (o : Int32 × Int32 × (Nat → Int32) × Int32 × Int32 × (Nat → Int64) × (Nat → Int32)) (hfn : fn_X3_changePart p2 p3 p4 p5 v0_10 f1 f2 v3_0 v3_5 v4_0 f5 f7 f8 v9_1 v9_2 f10 f11 f12 f13 f15 f16 f17 f18 f19 = some o) (sz : Nat) : zNi [(RX7, 90, yX11_divides, RX11)] l yX3_changePart wsX3_changePart ({ frames := 4, cells := 0, slots := 0, locals := 125 }) (dC, dI) vwCl [.ref h0, .ref h1, .int p2, .int p3, .int p4, .int p5] [zV3 h0 r0_0 r0_1 v0_2 v0_3 r0_4 r0_5 r0_6 r0_7 v0_8 r0_9 v0_10 v0_11 v0_12 v0_13 v0_14 v0_15, zVi r0_5 k1 14 f1, zVi r0_9 k2 14 f2, zV9 h1 v3_0 r3_1 r3_2 r3_3 r3_4 v3_5 r3_6 r3_7 r3_8, zV4 r3_6 v4_0 v4_1 r4_2 r4_3 r4_4 r4_5 r4_6 r4_7 r4_8 r4_9, zVi r4_8 k5 28 f5, zV2 r3_7 v6_0 v6_1 v6_2 r6_3 r6_4 r6_5, zVi r6_3 k7 14 f7, zVi r3_4 k8 4 f8, zV7 r0_0 r9_0 v9_1 v9_2, zVi r3_2 k10 4 f10, zVi r4_3 k11 14 f11, zVl r9_0 k12 14 f12, zVi r4_9 k13 28 f13, zV6 r3_8 r14_0 r14_1 r14_2, zVl r14_0 k15 14 f15, zVl r14_1 k16 14 f16, zVi r3_3 k17 4 f17, zVi r4_5 k18 14 f18, zVi r0_4 k19 14 f19] [(k1, .int), (k2, .int), (k5, .int), (k7, .int), (k8, .int), (k10, .int), (k11, .int), (k12, .long), (k13, .int), (k15, .long), (k16, .long), (k17, .int), (k18, .int), (k19, .boolean)] (fun r _ => r = o.1 ∧ narrow .boolean (.int o.1) = .int o.1) [zV3 h0 r0_0 r0_1 v0_2 v0_3 r0_4 r0_5 r0_6 r0_7 v0_8 r0_9 o.2.1 v0_11 v0_12 v0_13 v0_14 v0_15, zVi r0_5 k1 14 f1, zVi r0_9 k2 14 o.2.2.1, zV9 h1 v3_0 r3_1 r3_2 r3_3 r3_4 v3_5 r3_6 r3_7 r3_8, zV4 r3_6 v4_0 v4_1 r4_2 r4_3 r4_4 r4_5 r4_6 r4_7 r4_8 r4_9, zVi r4_8 k5 28 f5, zV2 r3_7 v6_0 v6_1 v6_2 r6_3 r6_4 r6_5, zVi r6_3 k7 14 f7, zVi r3_4 k8 4 f8, zV7 r0_0 r9_0 o.2.2.2.1 o.2.2.2.2.1, zVi r3_2 k10 4 f10, zVi r4_3 k11 14 f11, zVl r9_0 k12 14 o.2.2.2.2.2.1, zVi r4_9 k13 28 f13, zV6 r3_8 r14_0 r14_1 r14_2, zVl r14_0 k15 14 f15, zVl r14_1 k16 14 f16, zVi r3_3 k17 4 f17, zVi r4_5 k18 14 f18, zVi r0_4 k19 14 o.2.2.2.2.2.2] [(k1, .int), (k2, .int), (k5, .int), (k7, .int), (k8, .int), (k10, .int), (k11, .int), (k12, .long), (k13, .int), (k15, .long), (k16, .long), (k17, .int), (k18, .int), (k19, .boolean)] sz := by
  refine zgoNi (cc := cX3_changePart) (maxL := 8) (ret := (some .boolean)) (C0 := RX3) (lv0 := [(0, .ref h0), (1, .ref h1), (2, .int p2), (3, .int p3), (4, .int p4), (5, .int p5)]) zpl_X3 rfl rfl rfl (Nat.le_of_ble_eq_true rfl) ?_
  intro p e s m below meth c A ls Q hN hx hb hr hts hown hlocks hml hP hK hD hA hS hl hQ
  have hn0 : va_Nw (.methodLinkNest RX7 90 yX11_divides RX11) s := hN.1
  unfold fn_X3_changePart at hfn
  refine lv_aload_n hx hb dX3_changePart_0 rfl (lv_at hl 0 rfl) ?_
  refine lv_iload_n hx hb dX3_changePart_1 rfl (lv_at hl 2 rfl) ?_
  refine lv_iload_n hx hb dX3_changePart_2 rfl (lv_at hl 3 rfl) ?_
  refine lv_iload hx hb dX3_changePart_3 (lv_at hl 4 rfl) ?_
  obtain ⟨o_1, hqo_1, hfn⟩ := zb_s hfn
  refine zcVv (ci := 3) (rest := []) (pc' := 8) (ws' := [zV3 h0 r0_0 r0_1 v0_2 v0_3 r0_4 r0_5 r0_6 r0_7 v0_8 r0_9 v0_10 v0_11 v0_12 v0_13 v0_14 v0_15, zVi r0_5 k1 14 f1, zVi r0_9 k2 14 o_1, zV9 h1 v3_0 r3_1 r3_2 r3_3 r3_4 v3_5 r3_6 r3_7 r3_8, zV4 r3_6 v4_0 v4_1 r4_2 r4_3 r4_4 r4_5 r4_6 r4_7 r4_8 r4_9, zVi r4_8 k5 28 f5, zV2 r3_7 v6_0 v6_1 v6_2 r6_3 r6_4 r6_5, zVi r6_3 k7 14 f7, zVi r3_4 k8 4 f8, zV7 r0_0 r9_0 v9_1 v9_2, zVi r3_2 k10 4 f10, zVi r4_3 k11 14 f11, zVl r9_0 k12 14 f12, zVi r4_9 k13 28 f13, zV6 r3_8 r14_0 r14_1 r14_2, zVl r14_0 k15 14 f15, zVl r14_1 k16 14 f16, zVi r3_3 k17 4 f17, zVi r4_5 k18 14 f18, zVi r0_4 k19 14 f19]) hP hK hD hS hA ⟨hx, hb, hml, hown, hts⟩ (zf_X3_setPart l dC dI h0 p2 p3 p4 r0_0 r0_1 v0_2 v0_3 r0_4 r0_5 r0_6 r0_7 v0_8 r0_9 v0_10 v0_11 v0_12 v0_13 v0_14 v0_15 k1 f1 k2 f2 o_1 hqo_1 s.heap.size) (cwV 3 hts gX3_changePart_X3_setPart rfl rfl rfl zhd_X3_setPart ⟨Nat.le_of_ble_eq_true rfl, Nat.le_of_ble_eq_true rfl⟩) [0, 1, 2] rfl (of_decide_eq_true rfl) [0, 1] rfl rfl rfl rfl hl.1 rfl (Nat.le_of_ble_eq_true rfl) dX3_changePart_5 ⟨Nat.le_of_ble_eq_true rfl, Nat.le_of_ble_eq_true rfl⟩ [some 0, some 1, some 2] (of_decide_eq_true rfl) (of_decide_eq_true rfl) rfl rfl rfl (fun H locs hP hD hS => ?_)
  refine lv_aload_n hx hb dX3_changePart_8 rfl (lv_at hl 1 rfl) ?_
  refine lv_aload_n hx hb dX3_changePart_9 rfl (lv_at hl 0 rfl) ?_
  refine va_get (D := (dC, dI)) (ci := 3) (v := .ref r0_9) (C := RX3) (T := TX3) (N := 16) hx hb hts zn_X3_changePart_X3 hown hK hP 0 rfl rfl 9 (of_decide_eq_true rfl) (hts (.fieldLink RX3 35 "ShortEnough$LocalSearch" "row" "[I") zw_X3_changePart_315) (fun _ h9 => h9) rfl dX3_changePart_10 ?_
  obtain ⟨o_5, hqo_5, hfn⟩ := zb_s hfn
  refine zcVi (ci := 9) (rest := []) (pc' := 16) (ws' := [zV3 h0 r0_0 r0_1 v0_2 v0_3 r0_4 r0_5 r0_6 r0_7 v0_8 r0_9 v0_10 v0_11 v0_12 v0_13 v0_14 v0_15, zVi r0_5 k1 14 f1, zVi r0_9 k2 14 o_1, zV9 h1 v3_0 r3_1 r3_2 r3_3 r3_4 v3_5 r3_6 r3_7 r3_8, zV4 r3_6 v4_0 v4_1 r4_2 r4_3 r4_4 r4_5 r4_6 r4_7 r4_8 r4_9, zVi r4_8 k5 28 f5, zV2 r3_7 v6_0 v6_1 v6_2 r6_3 r6_4 r6_5, zVi r6_3 k7 14 f7, zVi r3_4 k8 4 f8, zV7 r0_0 r9_0 v9_1 v9_2, zVi r3_2 k10 4 f10, zVi r4_3 k11 14 f11, zVl r9_0 k12 14 f12, zVi r4_9 k13 28 f13, zV6 r3_8 r14_0 r14_1 r14_2, zVl r14_0 k15 14 f15, zVl r14_1 k16 14 f16, zVi r3_3 k17 4 f17, zVi r4_5 k18 14 f18, zVi r0_4 k19 14 f19]) hP hK hD hS hA ⟨hx, hb, hml, hown, hts⟩ (zf_X9_priceOf l dC dI h1 r0_9 v3_0 r3_1 r3_2 r3_3 r3_4 v3_5 r3_6 r3_7 r3_8 v4_0 v4_1 r4_2 r4_3 r4_4 r4_5 r4_6 r4_7 r4_8 r4_9 k5 f5 v6_0 v6_1 v6_2 r6_3 r6_4 r6_5 k7 f7 k2 o_1 k8 f8 o_5 hqo_5 H.size) (cwV 1 hts gX3_changePart_X9_priceOf rfl rfl rfl zhd_X9_priceOf ⟨Nat.le_of_ble_eq_true rfl, Nat.le_of_ble_eq_true rfl⟩) [3, 4, 5, 6, 7, 2, 8] rfl (of_decide_eq_true rfl) [2, 3, 1, 4] rfl rfl rfl rfl hl.1 rfl (Nat.le_of_ble_eq_true rfl) dX3_changePart_13 ⟨Nat.le_of_ble_eq_true rfl, Nat.le_of_ble_eq_true rfl⟩ [none, none, some 5, some 0, some 1, some 2, some 3, some 4, some 6] (of_decide_eq_true rfl) (of_decide_eq_true rfl) rfl rfl rfl (fun H locs hP hD hS => ?_)
  refine lv_istore (lv' := [(6, .int o_5), (0, .ref h0), (1, .ref h1), (2, .int p2), (3, .int p3), (4, .int p4), (5, .int p5)]) hx hb dX3_changePart_16 hl (of_decide_eq_true rfl) rfl (fun ls hl => ?_)
  refine lv_iload hx hb dX3_changePart_18 (lv_at hl 0 rfl) ?_
  refine lv_aload_n hx hb dX3_changePart_20 rfl (lv_at hl 1 rfl) ?_
  refine va_get (D := (dC, dI)) (ci := 3) (v := .int v0_10) (C := RX3) (T := TX3) (N := 16) hx hb hts zn_X3_changePart_X3 hown hK hP 0 rfl rfl 10 (of_decide_eq_true rfl) (hts (.fieldLink RX3 87 "ShortEnough$LocalSearch" "price" "I") zw_X3_changePart_316) (fun _ h9 => h9) rfl dX3_changePart_21 ?_
  refine lv_icmp_ge (tgt := 46) hx hb dX3_changePart_24 (of_decide_eq_true rfl) (fun c_9 => ?_) (fun c_9 => ?_)
  · have hfn := (if_pos c_9).symm.trans hfn
    refine lv_aload_n hx hb dX3_changePart_46 rfl (lv_at hl 1 rfl) ?_
    refine lv_iload_n hx hb dX3_changePart_47 rfl (lv_at hl 3 rfl) ?_
    refine lv_iload_n hx hb dX3_changePart_48 rfl (lv_at hl 4 rfl) ?_
    refine lv_iload hx hb dX3_changePart_49 (lv_at hl 6 rfl) ?_
    obtain ⟨o_10, hqo_10, hfn⟩ := zb_s hfn
    refine zcVv (ci := 3) (rest := []) (pc' := 54) (ws' := [zV3 h0 r0_0 r0_1 v0_2 v0_3 r0_4 r0_5 r0_6 r0_7 v0_8 r0_9 v0_10 v0_11 v0_12 v0_13 v0_14 v0_15, zVi r0_5 k1 14 f1, zVi r0_9 k2 14 o_10, zV9 h1 v3_0 r3_1 r3_2 r3_3 r3_4 v3_5 r3_6 r3_7 r3_8, zV4 r3_6 v4_0 v4_1 r4_2 r4_3 r4_4 r4_5 r4_6 r4_7 r4_8 r4_9, zVi r4_8 k5 28 f5, zV2 r3_7 v6_0 v6_1 v6_2 r6_3 r6_4 r6_5, zVi r6_3 k7 14 f7, zVi r3_4 k8 4 f8, zV7 r0_0 r9_0 v9_1 v9_2, zVi r3_2 k10 4 f10, zVi r4_3 k11 14 f11, zVl r9_0 k12 14 f12, zVi r4_9 k13 28 f13, zV6 r3_8 r14_0 r14_1 r14_2, zVl r14_0 k15 14 f15, zVl r14_1 k16 14 f16, zVi r3_3 k17 4 f17, zVi r4_5 k18 14 f18, zVi r0_4 k19 14 f19]) hP hK hD hS hA ⟨hx, hb, hml, hown, hts⟩ (zf_X3_setPart l dC dI h0 p2 p3 p5 r0_0 r0_1 v0_2 v0_3 r0_4 r0_5 r0_6 r0_7 v0_8 r0_9 v0_10 v0_11 v0_12 v0_13 v0_14 v0_15 k1 f1 k2 o_1 o_10 hqo_10 H.size) (cwV 3 hts gX3_changePart_X3_setPart rfl rfl rfl zhd_X3_setPart ⟨Nat.le_of_ble_eq_true rfl, Nat.le_of_ble_eq_true rfl⟩) [0, 1, 2] rfl (of_decide_eq_true rfl) [0, 1] rfl rfl rfl rfl hl.1 rfl (Nat.le_of_ble_eq_true rfl) dX3_changePart_51 ⟨Nat.le_of_ble_eq_true rfl, Nat.le_of_ble_eq_true rfl⟩ [some 0, some 1, some 2] (of_decide_eq_true rfl) (of_decide_eq_true rfl) rfl rfl rfl (fun H locs hP hD hS => ?_)
    refine lv_iconst (v := 0) hx hb dX3_changePart_54 zci_0 ?_
    have ho := Option.some.inj hfn
    subst ho
    exact zrz hx hb hr rfl hK hP hD hS hQ ⟨rfl, zB0⟩ hlocks dX3_changePart_55
  have hfn := (if_neg c_9).symm.trans hfn
  refine lv_aload_n hx hb dX3_changePart_27 rfl (lv_at hl 1 rfl) ?_
  refine va_get (D := (dC, dI)) (ci := 3) (v := .ref r0_0) (C := RX3) (T := TX3) (N := 16) hx hb hts zn_X3_changePart_X3 hown hK hP 0 rfl rfl 0 (of_decide_eq_true rfl) (hts (.fieldLink RX3 12 "ShortEnough$LocalSearch" "reckoning" "LShortEnough$Reckoning;") zw_X3_changePart_317) (fun _ h9 => h9) rfl dX3_changePart_28 ?_
  refine lv_aload_n hx hb dX3_changePart_31 rfl (lv_at hl 2 rfl) ?_
  refine lv_aload_n hx hb dX3_changePart_32 rfl (lv_at hl 2 rfl) ?_
  refine va_get (D := (dC, dI)) (ci := 9) (v := .ref r3_8) (C := RX9) (T := TX9) (N := 9) hx hb hts zn_X3_changePart_X9 hown hK hP 3 rfl rfl 8 (of_decide_eq_true rfl) (hts (.fieldLink RX3 75 "ShortEnough$Task" "ranges" "LShortEnough$Ranges;") zw_X3_changePart_319) (fun _ h9 => h9) rfl dX3_changePart_33 ?_
  refine lv_aload_n hx hb dX3_changePart_36 rfl (lv_at hl 1 rfl) ?_
  refine va_get (D := (dC, dI)) (ci := 3) (v := .ref r0_9) (C := RX3) (T := TX3) (N := 16) hx hb hts zn_X3_changePart_X3 hown hK hP 0 rfl rfl 9 (of_decide_eq_true rfl) (hts (.fieldLink RX3 35 "ShortEnough$LocalSearch" "row" "[I") zw_X3_changePart_315) (fun _ h9 => h9) rfl dX3_changePart_37 ?_
  obtain ⟨o_14, hqo_14, hfn⟩ := zb_s hfn
  refine zcNVb (ci := 7) (rest := []) (pc' := 43) (ws' := [zV3 h0 r0_0 r0_1 v0_2 v0_3 r0_4 r0_5 r0_6 r0_7 v0_8 r0_9 v0_10 v0_11 v0_12 v0_13 v0_14 v0_15, zVi r0_5 k1 14 f1, zVi r0_9 k2 14 o_1, zV9 h1 v3_0 r3_1 r3_2 r3_3 r3_4 v3_5 r3_6 r3_7 r3_8, zV4 r3_6 v4_0 v4_1 r4_2 r4_3 r4_4 r4_5 r4_6 r4_7 r4_8 r4_9, zVi r4_8 k5 28 f5, zV2 r3_7 v6_0 v6_1 v6_2 r6_3 r6_4 r6_5, zVi r6_3 k7 14 f7, zVi r3_4 k8 4 f8, zV7 r0_0 r9_0 o_14.2.1 o_14.2.2.1, zVi r3_2 k10 4 f10, zVi r4_3 k11 14 f11, zVl r9_0 k12 14 o_14.2.2.2, zVi r4_9 k13 28 f13, zV6 r3_8 r14_0 r14_1 r14_2, zVl r14_0 k15 14 f15, zVl r14_1 k16 14 f16, zVi r3_3 k17 4 f17, zVi r4_5 k18 14 f18, zVi r0_4 k19 14 f19]) hP hK hD hS hA ⟨hx, hb, hml, hown, hts⟩ (zf_X7_reckon l dC dI r0_0 h1 r3_8 r0_9 r9_0 v9_1 v9_2 v3_0 r3_1 r3_2 r3_3 r3_4 v3_5 r3_6 r3_7 r3_8 v4_0 v4_1 r4_2 r4_3 r4_4 r4_5 r4_6 r4_7 r4_8 r4_9 v6_0 v6_1 v6_2 r6_3 r6_4 r6_5 k7 f7 k2 o_1 k10 f10 k11 f11 k5 f5 k12 f12 k13 f13 r14_0 r14_1 r14_2 k15 f15 k16 f16 k17 f17 k18 f18 o_14 hqo_14 H.size) ⟨hn0, trivial⟩ (cwV 3 hts gX3_changePart_X7_reckon rfl rfl rfl zhd_X7_reckon ⟨Nat.le_of_ble_eq_true rfl, Nat.le_of_ble_eq_true rfl⟩) [9, 3, 4, 6, 7, 2, 10, 11, 5, 12, 13, 14, 15, 16, 17, 18] rfl (of_decide_eq_true rfl) [3, 1, 5, 6, 2, 7, 8, 9, 10, 11, 12] rfl rfl rfl rfl hl.1 rfl (Nat.le_of_ble_eq_true rfl) dX3_changePart_40 ⟨Nat.le_of_ble_eq_true rfl, Nat.le_of_ble_eq_true rfl⟩ [none, none, some 5, some 1, some 2, some 8, some 3, some 4, none, some 0, some 6, some 7, some 9, some 10, some 11, some 12, some 13, some 14, some 15] (of_decide_eq_true rfl) (of_decide_eq_true rfl) rfl rfl rfl (fun H locs hw_17n hP hD hS => ?_)
  refine lv_if_ne (tgt := 56) hx hb dX3_changePart_43 (of_decide_eq_true rfl) (fun c_18 => ?_) (fun c_18 => ?_)
  · have hfn := (if_neg c_18).symm.trans hfn
    refine lv_aload_n hx hb dX3_changePart_56 rfl (lv_at hl 1 rfl) ?_
    refine lv_iload hx hb dX3_changePart_57 (lv_at hl 0 rfl) ?_
    refine va_put (D := (dC, dI)) (ci := 3) (v := .int o_5) (ty := .int) (C := RX3) (T := TX3) (N := 16) hx hb hts zn_X3_changePart_X3 tyX3 tyX3_ok nmX3 hown hK hP hD hS 0 rfl rfl 10 (of_decide_eq_true rfl) (hts (.fieldLink RX3 87 "ShortEnough$LocalSearch" "price" "I") zw_X3_changePart_316) (fun _ h9 => h9) rfl (tyX3_ok 10 (of_decide_eq_true rfl)) rfl rfl (Nat.le_of_ble_eq_true rfl) dX3_changePart_59 (fun H locs hP hD hS => ?_)
    have hP : va_P (dC, dI) vwCl [zV3 h0 r0_0 r0_1 v0_2 v0_3 r0_4 r0_5 r0_6 r0_7 v0_8 r0_9 o_5 v0_11 v0_12 v0_13 v0_14 v0_15, zVi r0_5 k1 14 f1, zVi r0_9 k2 14 o_1, zV9 h1 v3_0 r3_1 r3_2 r3_3 r3_4 v3_5 r3_6 r3_7 r3_8, zV4 r3_6 v4_0 v4_1 r4_2 r4_3 r4_4 r4_5 r4_6 r4_7 r4_8 r4_9, zVi r4_8 k5 28 f5, zV2 r3_7 v6_0 v6_1 v6_2 r6_3 r6_4 r6_5, zVi r6_3 k7 14 f7, zVi r3_4 k8 4 f8, zV7 r0_0 r9_0 o_14.2.1 o_14.2.2.1, zVi r3_2 k10 4 f10, zVi r4_3 k11 14 f11, zVl r9_0 k12 14 o_14.2.2.2, zVi r4_9 k13 28 f13, zV6 r3_8 r14_0 r14_1 r14_2, zVl r14_0 k15 14 f15, zVl r14_1 k16 14 f16, zVi r3_3 k17 4 f17, zVi r4_5 k18 14 f18, zVi r0_4 k19 14 f19] H := hP
    have hD := zDW hD hP rfl
    refine lv_iload_n hx hb dX3_changePart_62 rfl (lv_at hl 3 rfl) ?_
    refine lv_istore (lv' := [(7, .int p2), (6, .int o_5), (0, .ref h0), (1, .ref h1), (2, .int p2), (3, .int p3), (4, .int p4), (5, .int p5)]) hx hb dX3_changePart_63 hl (of_decide_eq_true rfl) rfl (fun ls hl => ?_)
    obtain ⟨bd_19, ebd_19, hfn⟩ := zl_g hfn
    have lp_19 : ∀ (n : Nat) (s_19 : Int32 × (Nat → Int32)) (H : Heap) (locs : List Loc) (ls : Array Slot), zl bd_19 n s_19 = some o → va_P (dC, dI) vwCl [zV3 h0 r0_0 r0_1 v0_2 v0_3 r0_4 r0_5 r0_6 r0_7 v0_8 r0_9 o_5 v0_11 v0_12 v0_13 v0_14 v0_15, zVi r0_5 k1 14 f1, zVi r0_9 k2 14 o_1, zV9 h1 v3_0 r3_1 r3_2 r3_3 r3_4 v3_5 r3_6 r3_7 r3_8, zV4 r3_6 v4_0 v4_1 r4_2 r4_3 r4_4 r4_5 r4_6 r4_7 r4_8 r4_9, zVi r4_8 k5 28 f5, zV2 r3_7 v6_0 v6_1 v6_2 r6_3 r6_4 r6_5, zVi r6_3 k7 14 f7, zVi r3_4 k8 4 f8, zV7 r0_0 r9_0 o_14.2.1 o_14.2.2.1, zVi r3_2 k10 4 f10, zVi r4_3 k11 14 f11, zVl r9_0 k12 14 o_14.2.2.2, zVi r4_9 k13 28 f13, zV6 r3_8 r14_0 r14_1 r14_2, zVl r14_0 k15 14 f15, zVl r14_1 k16 14 f16, zVi r3_3 k17 4 f17, zVi r4_5 k18 14 f18, zVi r0_4 k19 14 s_19.2] H → va_D A [zV3 h0 r0_0 r0_1 v0_2 v0_3 r0_4 r0_5 r0_6 r0_7 v0_8 r0_9 o_5 v0_11 v0_12 v0_13 v0_14 v0_15, zVi r0_5 k1 14 f1, zVi r0_9 k2 14 o_1, zV9 h1 v3_0 r3_1 r3_2 r3_3 r3_4 v3_5 r3_6 r3_7 r3_8, zV4 r3_6 v4_0 v4_1 r4_2 r4_3 r4_4 r4_5 r4_6 r4_7 r4_8 r4_9, zVi r4_8 k5 28 f5, zV2 r3_7 v6_0 v6_1 v6_2 r6_3 r6_4 r6_5, zVi r6_3 k7 14 f7, zVi r3_4 k8 4 f8, zV7 r0_0 r9_0 o_14.2.1 o_14.2.2.1, zVi r3_2 k10 4 f10, zVi r4_3 k11 14 f11, zVl r9_0 k12 14 o_14.2.2.2, zVi r4_9 k13 28 f13, zV6 r3_8 r14_0 r14_1 r14_2, zVl r14_0 k15 14 f15, zVl r14_1 k16 14 f16, zVi r3_3 k17 4 f17, zVi r4_5 k18 14 f18, zVi r0_4 k19 14 s_19.2] → va_S A s.heap H locs → lv_has ls 8 [(7, .int s_19.1), (0, .ref h0), (3, .int p3)] → W p l e (headSpec wsX3_changePart ({ frames := 4, cells := 0, slots := 0, locals := 125 })).room s m ([.ref h0, .ref h1, .int p2, .int p3, .int p4, .int p5] : List Value).toArray below meth c H locs 0 0 Q (F0 m 65 ls []) := by
      intro n
      induction n with
      | zero => exact fun _ _ _ _ hfn => (zl_0 hfn).elim
      | succ n ih_19 =>
        intro s_19 H locs ls hfn hP hD hS hl
        have hfn := zl_s ebd_19 hfn
        refine lv_iload hx hb dX3_changePart_65 (lv_at hl 0 rfl) ?_
        refine lv_iload_n hx hb dX3_changePart_67 rfl (lv_at hl 2 rfl) ?_
        refine lv_icmp_ge (tgt := 90) hx hb dX3_changePart_68 (of_decide_eq_true rfl) (fun c_20 => ?_) (fun c_20 => ?_)
        · have hfn := (if_pos c_20).symm.trans hfn
          refine lv_iconst (v := 1) hx hb dX3_changePart_90 zci_1 ?_
          have ho := Option.some.inj hfn
          subst ho
          exact zrz hx hb hr rfl hK hP hD hS hQ ⟨rfl, zB1⟩ hlocks dX3_changePart_91
        have hfn := (if_neg c_20).symm.trans hfn
        refine lv_aload_n hx hb dX3_changePart_71 rfl (lv_at hl 1 rfl) ?_
        refine va_get (D := (dC, dI)) (ci := 3) (v := .ref r0_4) (C := RX3) (T := TX3) (N := 16) hx hb hts zn_X3_changePart_X3 hown hK hP 0 rfl rfl 4 (of_decide_eq_true rfl) (hts (.fieldLink RX3 22 "ShortEnough$LocalSearch" "changed" "[Z") zw_X3_changePart_320) (fun _ h9 => h9) rfl dX3_changePart_72 ?_
        refine lv_aload_n hx hb dX3_changePart_75 rfl (lv_at hl 1 rfl) ?_
        refine va_get (D := (dC, dI)) (ci := 3) (v := .ref r0_5) (C := RX3) (T := TX3) (N := 16) hx hb hts zn_X3_changePart_X3 hown hK hP 0 rfl rfl 5 (of_decide_eq_true rfl) (hts (.fieldLink RX3 26 "ShortEnough$LocalSearch" "unchanged" "[I") zw_X3_changePart_321) (fun _ h9 => h9) rfl dX3_changePart_76 ?_
        refine lv_iload hx hb dX3_changePart_79 (lv_at hl 0 rfl) ?_
        obtain ⟨h_21, hfn⟩ := zg_s hfn
        refine va_iald hx hb hK hP 1 0 rfl rfl h_21 dX3_changePart_81 ?_
        refine lv_iconst (v := 1) hx hb dX3_changePart_82 zci_1 ?_
        obtain ⟨h_22, hfn⟩ := zg_s hfn
        refine va_zast hx hb hK hP hD hS 19 13 rfl rfl h_22 dX3_changePart_83 (fun H locs hP hD hS => ?_)
        obtain ⟨g_23, eg_23⟩ : ∃ g : Nat → Int32, g = (upd s_19.2 (f1 s_19.1.toNatClampNeg).toNatClampNeg (vp_nar .boolean 1)) := ⟨_, rfl⟩
        have hfn := zn_s hfn eg_23
        have hP : va_P (dC, dI) vwCl [zV3 h0 r0_0 r0_1 v0_2 v0_3 r0_4 r0_5 r0_6 r0_7 v0_8 r0_9 o_5 v0_11 v0_12 v0_13 v0_14 v0_15, zVi r0_5 k1 14 f1, zVi r0_9 k2 14 o_1, zV9 h1 v3_0 r3_1 r3_2 r3_3 r3_4 v3_5 r3_6 r3_7 r3_8, zV4 r3_6 v4_0 v4_1 r4_2 r4_3 r4_4 r4_5 r4_6 r4_7 r4_8 r4_9, zVi r4_8 k5 28 f5, zV2 r3_7 v6_0 v6_1 v6_2 r6_3 r6_4 r6_5, zVi r6_3 k7 14 f7, zVi r3_4 k8 4 f8, zV7 r0_0 r9_0 o_14.2.1 o_14.2.2.1, zVi r3_2 k10 4 f10, zVi r4_3 k11 14 f11, zVl r9_0 k12 14 o_14.2.2.2, zVi r4_9 k13 28 f13, zV6 r3_8 r14_0 r14_1 r14_2, zVl r14_0 k15 14 f15, zVl r14_1 k16 14 f16, zVi r3_3 k17 4 f17, zVi r4_5 k18 14 f18, zVi r0_4 k19 14 g_23] H := by rw [eg_23]; exact hP
        have hD : va_D A [zV3 h0 r0_0 r0_1 v0_2 v0_3 r0_4 r0_5 r0_6 r0_7 v0_8 r0_9 o_5 v0_11 v0_12 v0_13 v0_14 v0_15, zVi r0_5 k1 14 f1, zVi r0_9 k2 14 o_1, zV9 h1 v3_0 r3_1 r3_2 r3_3 r3_4 v3_5 r3_6 r3_7 r3_8, zV4 r3_6 v4_0 v4_1 r4_2 r4_3 r4_4 r4_5 r4_6 r4_7 r4_8 r4_9, zVi r4_8 k5 28 f5, zV2 r3_7 v6_0 v6_1 v6_2 r6_3 r6_4 r6_5, zVi r6_3 k7 14 f7, zVi r3_4 k8 4 f8, zV7 r0_0 r9_0 o_14.2.1 o_14.2.2.1, zVi r3_2 k10 4 f10, zVi r4_3 k11 14 f11, zVl r9_0 k12 14 o_14.2.2.2, zVi r4_9 k13 28 f13, zV6 r3_8 r14_0 r14_1 r14_2, zVl r14_0 k15 14 f15, zVl r14_1 k16 14 f16, zVi r3_3 k17 4 f17, zVi r4_5 k18 14 f18, zVi r0_4 k19 14 g_23] := by rw [eg_23]; exact hD
        refine lv_iinc (v := (s_19.1 + 1)) (lv' := [(7, .int (s_19.1 + 1)), (0, .ref h0), (3, .int p3)]) hx hb dX3_changePart_84 hl (k := 0) rfl rfl (of_decide_eq_true rfl) rfl (fun ls hl => ?_)
        refine lv_goto (tgt := 65) hx hb dX3_changePart_87 (of_decide_eq_true rfl) ?_
        exact ih_19 ((s_19.1 + 1), g_23) H locs ls hfn hP hD hS (lv_sub hl [0, 1, 2] rfl)
    exact lp_19 _ (p2, f19) H locs ls hfn hP hD hS (lv_sub hl [0, 2, 5] rfl)
  have hfn := (if_pos c_18).symm.trans hfn
  refine lv_aload_n hx hb dX3_changePart_46 rfl (lv_at hl 1 rfl) ?_
  refine lv_iload_n hx hb dX3_changePart_47 rfl (lv_at hl 3 rfl) ?_
  refine lv_iload_n hx hb dX3_changePart_48 rfl (lv_at hl 4 rfl) ?_
  refine lv_iload hx hb dX3_changePart_49 (lv_at hl 6 rfl) ?_
  obtain ⟨o_24, hqo_24, hfn⟩ := zb_s hfn
  refine zcVv (ci := 3) (rest := []) (pc' := 54) (ws' := [zV3 h0 r0_0 r0_1 v0_2 v0_3 r0_4 r0_5 r0_6 r0_7 v0_8 r0_9 v0_10 v0_11 v0_12 v0_13 v0_14 v0_15, zVi r0_5 k1 14 f1, zVi r0_9 k2 14 o_24, zV9 h1 v3_0 r3_1 r3_2 r3_3 r3_4 v3_5 r3_6 r3_7 r3_8, zV4 r3_6 v4_0 v4_1 r4_2 r4_3 r4_4 r4_5 r4_6 r4_7 r4_8 r4_9, zVi r4_8 k5 28 f5, zV2 r3_7 v6_0 v6_1 v6_2 r6_3 r6_4 r6_5, zVi r6_3 k7 14 f7, zVi r3_4 k8 4 f8, zV7 r0_0 r9_0 o_14.2.1 o_14.2.2.1, zVi r3_2 k10 4 f10, zVi r4_3 k11 14 f11, zVl r9_0 k12 14 o_14.2.2.2, zVi r4_9 k13 28 f13, zV6 r3_8 r14_0 r14_1 r14_2, zVl r14_0 k15 14 f15, zVl r14_1 k16 14 f16, zVi r3_3 k17 4 f17, zVi r4_5 k18 14 f18, zVi r0_4 k19 14 f19]) hP hK hD hS hA ⟨hx, hb, hml, hown, hts⟩ (zf_X3_setPart l dC dI h0 p2 p3 p5 r0_0 r0_1 v0_2 v0_3 r0_4 r0_5 r0_6 r0_7 v0_8 r0_9 v0_10 v0_11 v0_12 v0_13 v0_14 v0_15 k1 f1 k2 o_1 o_24 hqo_24 H.size) (cwV 3 hts gX3_changePart_X3_setPart rfl rfl rfl zhd_X3_setPart ⟨Nat.le_of_ble_eq_true rfl, Nat.le_of_ble_eq_true rfl⟩) [0, 1, 2] rfl (of_decide_eq_true rfl) [0, 1] rfl rfl rfl rfl hl.1 rfl (Nat.le_of_ble_eq_true rfl) dX3_changePart_51 ⟨Nat.le_of_ble_eq_true rfl, Nat.le_of_ble_eq_true rfl⟩ [some 0, some 1, some 2] (of_decide_eq_true rfl) (of_decide_eq_true rfl) rfl rfl rfl (fun H locs hP hD hS => ?_)
  refine lv_iconst (v := 0) hx hb dX3_changePart_54 zci_0 ?_
  have ho := Option.some.inj hfn
  subst ho
  exact zrz hx hb hr rfl hK hP hD hS hQ ⟨rfl, zB0⟩ hlocks dX3_changePart_55
theorem zn_X3_halveWith_X3 : ∀ w ∈ wsX30, w ∈ wsX3_halveWith := fun _ h => List.mem_cons_of_mem _ (List.mem_append_left _ (List.mem_append_left _ (List.mem_append_left _ (List.mem_append_left _ (List.mem_append_left _ (List.mem_append_right _ h))))))
theorem zw_X3_halveWith_303 : Cond.fieldLink RX3 101 "ShortEnough$LocalSearch" "parts" "I" ∈ wsX3_halveWith := List.mem_of_getElem? (i := 1) (by decide +kernel)
theorem zw_X3_halveWith_308 : Cond.fieldLink RX3 29 "ShortEnough$LocalSearch" "partFrom" "[I" ∈ wsX3_halveWith := List.mem_of_getElem? (i := 2) (by decide +kernel)
theorem zw_X3_halveWith_309 : Cond.fieldLink RX3 32 "ShortEnough$LocalSearch" "partTo" "[I" ∈ wsX3_halveWith := List.mem_of_getElem? (i := 3) (by decide +kernel)
theorem zw_X3_halveWith_310 : Cond.fieldLink RX3 72 "ShortEnough$LocalSearch" "tries" "I" ∈ wsX3_halveWith := List.mem_of_getElem? (i := 4) (by decide +kernel)
set_option maxHeartbeats 4000000 in
set_option maxRecDepth 100000 in
theorem zf_X3_halveWith (l : Launch) (dC : Nat → ClassId) (dI : Nat → Nat → Nat) (h0 : Nat) (h1 : Nat) (p2 : Int32) (p3 : Int32) (r0_0 : Nat) (r0_1 : Nat) (v0_2 : Int32) (v0_3 : Int32) (r0_4 : Nat) (r0_5 : Nat) (r0_6 : Nat) (r0_7 : Nat) (v0_8 : Int32) (r0_9 : Nat) (v0_10 : Int32) (v0_11 : Int32) (v0_12 : Int32) (v0_13 : Int32) (v0_14 : Int32) (v0_15 : Int32) (v1_0 : Int32) (r1_1 : Nat) (r1_2 : Nat) (r1_3 : Nat) (r1_4 : Nat) (v1_5 : Int32) (r1_6 : Nat) (r1_7 : Nat) (r1_8 : Nat) (v2_0 : Int32) (v2_1 : Int32) (v2_2 : Int32) (r2_3 : Nat) (r2_4 : Nat) (r2_5 : Nat) (k3 : Nat) (f3 : Nat → Int32) (k4 : Nat) (f4 : Nat → Int32) (k5 : Nat) (f5 : Nat → Int32) (k6 : Nat) (f6 : Nat → Int32) (k7 : Nat) (f7 : Nat → Int32) (k8 : Nat) (f8 : Nat → Int32) (v9_0 : Int32) (v9_1 : Int32) (r9_2 : Nat) (r9_3 : Nat) (r9_4 : Nat) (r9_5 : Nat) (r9_6 : Nat) (r9_7 : Nat) (r9_8 : Nat) (r9_9 : Nat) (k10 : Nat) (f10 : Nat → Int32) (k11 : Nat) (f11 : Nat → Int32) (k12 : Nat) (f12 : Nat → Int32) (r13_0 : Nat) (v13_1 : Int32) (v13_2 : Int32) (k14 : Nat) (f14 : Nat → Int32) (k15 : Nat) (f15 : Nat → Int32) (k16 : Nat) (f16 : Nat → Int64) (k17 : Nat) (f17 : Nat → Int32) (r18_0 : Nat) (r18_1 : Nat) (r18_2 : Nat) (k19 : Nat) (f19 : Nat → Int64) (k20 : Nat) (f20 : Nat → Int64) (k21 : Nat) (f21 : Nat → Int32) (k22 : Nat) (f22 : Nat → Int32) (o : Int32 × Int32 × Int32 × (Nat → Int32) × (Nat → Int32) × (Nat → Int32) × (Nat → Int32) × (Nat → Int32) × Int32 × Int32 × (Nat → Int64)) (hfn : fn_X3_halveWith p2 p3 v0_10 v0_11 v1_0 v1_5 v2_0 f3 f4 f5 f6 f7 f8 v9_0 f10 f11 f12 v13_1 v13_2 f14 f15 f16 f17 f19 f20 f21 f22 = some o) (sz : Nat) : zNv [(RX7, 90, yX11_divides, RX11)] l yX3_halveWith wsX3_halveWith ({ frames := 5, cells := 0, slots := 0, locals := 152 }) (dC, dI) vwCl [.ref h0, .ref h1, .int p2, .int p3] [zV3 h0 r0_0 r0_1 v0_2 v0_3 r0_4 r0_5 r0_6 r0_7 v0_8 r0_9 v0_10 v0_11 v0_12 v0_13 v0_14 v0_15, zV9 h1 v1_0 r1_1 r1_2 r1_3 r1_4 v1_5 r1_6 r1_7 r1_8, zV2 r1_7 v2_0 v2_1 v2_2 r2_3 r2_4 r2_5, zVi r2_4 k3 14 f3, zVi r0_4 k4 14 f4, zVi r0_5 k5 14 f5, zVi r0_6 k6 28 f6, zVi r0_7 k7 28 f7, zVi r0_9 k8 14 f8, zV4 r1_6 v9_0 v9_1 r9_2 r9_3 r9_4 r9_5 r9_6 r9_7 r9_8 r9_9, zVi r9_8 k10 28 f10, zVi r2_3 k11 14 f11, zVi r1_4 k12 4 f12, zV7 r0_0 r13_0 v13_1 v13_2, zVi r1_2 k14 4 f14, zVi r9_3 k15 14 f15, zVl r13_0 k16 14 f16, zVi r9_9 k17 28 f17, zV6 r1_8 r18_0 r18_1 r18_2, zVl r18_0 k19 14 f19, zVl r18_1 k20 14 f20, zVi r1_3 k21 4 f21, zVi r9_5 k22 14 f22] [(k3, .int), (k4, .boolean), (k5, .int), (k6, .int), (k7, .int), (k8, .int), (k10, .int), (k11, .int), (k12, .int), (k14, .int), (k15, .int), (k16, .long), (k17, .int), (k19, .long), (k20, .long), (k21, .int), (k22, .int)] (fun _ => True) [zV3 h0 r0_0 r0_1 v0_2 v0_3 r0_4 r0_5 r0_6 r0_7 o.2.2.1 r0_9 o.1 o.2.1 v0_12 v0_13 v0_14 v0_15, zV9 h1 v1_0 r1_1 r1_2 r1_3 r1_4 v1_5 r1_6 r1_7 r1_8, zV2 r1_7 v2_0 v2_1 v2_2 r2_3 r2_4 r2_5, zVi r2_4 k3 14 f3, zVi r0_4 k4 14 o.2.2.2.1, zVi r0_5 k5 14 o.2.2.2.2.1, zVi r0_6 k6 28 o.2.2.2.2.2.1, zVi r0_7 k7 28 o.2.2.2.2.2.2.1, zVi r0_9 k8 14 o.2.2.2.2.2.2.2.1, zV4 r1_6 v9_0 v9_1 r9_2 r9_3 r9_4 r9_5 r9_6 r9_7 r9_8 r9_9, zVi r9_8 k10 28 f10, zVi r2_3 k11 14 f11, zVi r1_4 k12 4 f12, zV7 r0_0 r13_0 o.2.2.2.2.2.2.2.2.1 o.2.2.2.2.2.2.2.2.2.1, zVi r1_2 k14 4 f14, zVi r9_3 k15 14 f15, zVl r13_0 k16 14 o.2.2.2.2.2.2.2.2.2.2, zVi r9_9 k17 28 f17, zV6 r1_8 r18_0 r18_1 r18_2, zVl r18_0 k19 14 f19, zVl r18_1 k20 14 f20, zVi r1_3 k21 4 f21, zVi r9_5 k22 14 f22] [(k3, .int), (k4, .boolean), (k5, .int), (k6, .int), (k7, .int), (k8, .int), (k10, .int), (k11, .int), (k12, .int), (k14, .int), (k15, .int), (k16, .long), (k17, .int), (k19, .long), (k20, .long), (k21, .int), (k22, .int)] sz := by
  refine zgoNv (cc := cX3_halveWith) (maxL := 9) (ret := none) (C0 := RX3) (lv0 := [(0, .ref h0), (1, .ref h1), (2, .int p2), (3, .int p3)]) zpl_X3 rfl rfl rfl (Nat.le_of_ble_eq_true rfl) ?_
  intro p e s m below meth c A ls Q hN hx hb hr hts hown hlocks hml hP hK hD hA hS hl hQ
  have hn0 : va_Nw (.methodLinkNest RX7 90 yX11_divides RX11) s := hN.1
  unfold fn_X3_halveWith at hfn
  refine lv_aload_n hx hb dX3_halveWith_0 rfl (lv_at hl 0 rfl) ?_
  refine lv_aload_n hx hb dX3_halveWith_1 rfl (lv_at hl 1 rfl) ?_
  obtain ⟨o_1, hqo_1, hfn⟩ := zb_s hfn
  refine zcVi (ci := 3) (rest := []) (pc' := 5) (ws' := [zV3 h0 r0_0 r0_1 v0_2 v0_3 r0_4 r0_5 r0_6 r0_7 v0_8 r0_9 v0_10 v0_11 v0_12 v0_13 v0_14 v0_15, zV9 h1 v1_0 r1_1 r1_2 r1_3 r1_4 v1_5 r1_6 r1_7 r1_8, zV2 r1_7 v2_0 v2_1 v2_2 r2_3 r2_4 r2_5, zVi r2_4 k3 14 f3, zVi r0_4 k4 14 f4, zVi r0_5 k5 14 o_1.2, zVi r0_6 k6 28 f6, zVi r0_7 k7 28 f7, zVi r0_9 k8 14 f8, zV4 r1_6 v9_0 v9_1 r9_2 r9_3 r9_4 r9_5 r9_6 r9_7 r9_8 r9_9, zVi r9_8 k10 28 f10, zVi r2_3 k11 14 f11, zVi r1_4 k12 4 f12, zV7 r0_0 r13_0 v13_1 v13_2, zVi r1_2 k14 4 f14, zVi r9_3 k15 14 f15, zVl r13_0 k16 14 f16, zVi r9_9 k17 28 f17, zV6 r1_8 r18_0 r18_1 r18_2, zVl r18_0 k19 14 f19, zVl r18_1 k20 14 f20, zVi r1_3 k21 4 f21, zVi r9_5 k22 14 f22]) hP hK hD hS hA ⟨hx, hb, hml, hown, hts⟩ (zf_X3_findUnchanged l dC dI h0 h1 r0_0 r0_1 v0_2 v0_3 r0_4 r0_5 r0_6 r0_7 v0_8 r0_9 v0_10 v0_11 v0_12 v0_13 v0_14 v0_15 v1_0 r1_1 r1_2 r1_3 r1_4 v1_5 r1_6 r1_7 r1_8 v2_0 v2_1 v2_2 r2_3 r2_4 r2_5 k3 f3 k4 f4 k5 f5 o_1 hqo_1 s.heap.size) (cwV 1 hts gX3_halveWith_X3_findUnchanged rfl rfl rfl zhd_X3_findUnchanged ⟨Nat.le_of_ble_eq_true rfl, Nat.le_of_ble_eq_true rfl⟩) [0, 1, 2, 3, 4, 5] rfl (of_decide_eq_true rfl) [0, 1, 2] rfl rfl rfl rfl hl.1 rfl (Nat.le_of_ble_eq_true rfl) dX3_halveWith_2 ⟨Nat.le_of_ble_eq_true rfl, Nat.le_of_ble_eq_true rfl⟩ [some 0, some 1, some 2, some 3, some 4, some 5] (of_decide_eq_true rfl) (of_decide_eq_true rfl) rfl rfl rfl (fun H locs hP hD hS => ?_)
  refine lv_istore (lv' := [(4, .int o_1.1), (0, .ref h0), (1, .ref h1), (2, .int p2), (3, .int p3)]) hx hb dX3_halveWith_5 hl (of_decide_eq_true rfl) rfl (fun ls hl => ?_)
  refine lv_aload_n hx hb dX3_halveWith_7 rfl (lv_at hl 1 rfl) ?_
  refine lv_iconst (v := 0) hx hb dX3_halveWith_8 zci_0 ?_
  refine va_put (D := (dC, dI)) (ci := 3) (v := .int 0) (ty := .int) (C := RX3) (T := TX3) (N := 16) hx hb hts zn_X3_halveWith_X3 tyX3 tyX3_ok nmX3 hown hK hP hD hS 0 rfl rfl 8 (of_decide_eq_true rfl) (hts (.fieldLink RX3 101 "ShortEnough$LocalSearch" "parts" "I") zw_X3_halveWith_303) (fun _ h9 => h9) rfl (tyX3_ok 8 (of_decide_eq_true rfl)) rfl rfl (Nat.le_of_ble_eq_true rfl) dX3_halveWith_9 (fun H locs hP hD hS => ?_)
  have hP : va_P (dC, dI) vwCl [zV3 h0 r0_0 r0_1 v0_2 v0_3 r0_4 r0_5 r0_6 r0_7 0 r0_9 v0_10 v0_11 v0_12 v0_13 v0_14 v0_15, zV9 h1 v1_0 r1_1 r1_2 r1_3 r1_4 v1_5 r1_6 r1_7 r1_8, zV2 r1_7 v2_0 v2_1 v2_2 r2_3 r2_4 r2_5, zVi r2_4 k3 14 f3, zVi r0_4 k4 14 f4, zVi r0_5 k5 14 o_1.2, zVi r0_6 k6 28 f6, zVi r0_7 k7 28 f7, zVi r0_9 k8 14 f8, zV4 r1_6 v9_0 v9_1 r9_2 r9_3 r9_4 r9_5 r9_6 r9_7 r9_8 r9_9, zVi r9_8 k10 28 f10, zVi r2_3 k11 14 f11, zVi r1_4 k12 4 f12, zV7 r0_0 r13_0 v13_1 v13_2, zVi r1_2 k14 4 f14, zVi r9_3 k15 14 f15, zVl r13_0 k16 14 f16, zVi r9_9 k17 28 f17, zV6 r1_8 r18_0 r18_1 r18_2, zVl r18_0 k19 14 f19, zVl r18_1 k20 14 f20, zVi r1_3 k21 4 f21, zVi r9_5 k22 14 f22] H := hP
  have hD := zDW hD hP rfl
  refine lv_iload hx hb dX3_halveWith_12 (lv_at hl 0 rfl) ?_
  obtain ⟨j_5, ej_5, hfn⟩ := zj_g hfn
  have jp_5 : ∀ (s_5 : Int32 × (Nat → Int32) × (Nat → Int32)) (H : Heap) (locs : List Loc) (ls : Array Slot), j_5 s_5 = some o → va_P (dC, dI) vwCl [zV3 h0 r0_0 r0_1 v0_2 v0_3 r0_4 r0_5 r0_6 r0_7 s_5.1 r0_9 v0_10 v0_11 v0_12 v0_13 v0_14 v0_15, zV9 h1 v1_0 r1_1 r1_2 r1_3 r1_4 v1_5 r1_6 r1_7 r1_8, zV2 r1_7 v2_0 v2_1 v2_2 r2_3 r2_4 r2_5, zVi r2_4 k3 14 f3, zVi r0_4 k4 14 f4, zVi r0_5 k5 14 o_1.2, zVi r0_6 k6 28 s_5.2.1, zVi r0_7 k7 28 s_5.2.2, zVi r0_9 k8 14 f8, zV4 r1_6 v9_0 v9_1 r9_2 r9_3 r9_4 r9_5 r9_6 r9_7 r9_8 r9_9, zVi r9_8 k10 28 f10, zVi r2_3 k11 14 f11, zVi r1_4 k12 4 f12, zV7 r0_0 r13_0 v13_1 v13_2, zVi r1_2 k14 4 f14, zVi r9_3 k15 14 f15, zVl r13_0 k16 14 f16, zVi r9_9 k17 28 f17, zV6 r1_8 r18_0 r18_1 r18_2, zVl r18_0 k19 14 f19, zVl r18_1 k20 14 f20, zVi r1_3 k21 4 f21, zVi r9_5 k22 14 f22] H → va_D A [zV3 h0 r0_0 r0_1 v0_2 v0_3 r0_4 r0_5 r0_6 r0_7 s_5.1 r0_9 v0_10 v0_11 v0_12 v0_13 v0_14 v0_15, zV9 h1 v1_0 r1_1 r1_2 r1_3 r1_4 v1_5 r1_6 r1_7 r1_8, zV2 r1_7 v2_0 v2_1 v2_2 r2_3 r2_4 r2_5, zVi r2_4 k3 14 f3, zVi r0_4 k4 14 f4, zVi r0_5 k5 14 o_1.2, zVi r0_6 k6 28 s_5.2.1, zVi r0_7 k7 28 s_5.2.2, zVi r0_9 k8 14 f8, zV4 r1_6 v9_0 v9_1 r9_2 r9_3 r9_4 r9_5 r9_6 r9_7 r9_8 r9_9, zVi r9_8 k10 28 f10, zVi r2_3 k11 14 f11, zVi r1_4 k12 4 f12, zV7 r0_0 r13_0 v13_1 v13_2, zVi r1_2 k14 4 f14, zVi r9_3 k15 14 f15, zVl r13_0 k16 14 f16, zVi r9_9 k17 28 f17, zV6 r1_8 r18_0 r18_1 r18_2, zVl r18_0 k19 14 f19, zVl r18_1 k20 14 f20, zVi r1_3 k21 4 f21, zVi r9_5 k22 14 f22] → va_S A s.heap H locs → lv_has ls 9 [(0, .ref h0), (1, .ref h1), (2, .int p2), (3, .int p3)] → W p l e (headSpec wsX3_halveWith ({ frames := 5, cells := 0, slots := 0, locals := 152 })).room s m ([.ref h0, .ref h1, .int p2, .int p3] : List Value).toArray below meth c H locs 0 0 Q (F0 m 24 ls []) := by
    intro s_5 H locs ls hfn hP hD hS hl
    have hfn := zj_s ej_5 hfn
    refine lv_iconst (v := 0) hx hb dX3_halveWith_24 zci_0 ?_
    refine lv_istore (lv' := [(5, .int 0), (0, .ref h0), (1, .ref h1), (2, .int p2), (3, .int p3)]) hx hb dX3_halveWith_25 hl (of_decide_eq_true rfl) rfl (fun ls hl => ?_)
    obtain ⟨bd_6, ebd_6, hfn⟩ := zl_g hfn
    have lp_6 : ∀ (n : Nat) (s_6 : Int32 × Int32 × Int32 × Int32 × Int32 × Int32 × (Nat → Int32) × (Nat → Int32) × (Nat → Int32) × (Nat → Int32) × (Nat → Int64)) (H : Heap) (locs : List Loc) (ls : Array Slot), zl bd_6 n s_6 = some o → va_P (dC, dI) vwCl [zV3 h0 r0_0 r0_1 v0_2 v0_3 r0_4 r0_5 r0_6 r0_7 s_6.2.2.2.1 r0_9 s_6.2.1 s_6.2.2.1 v0_12 v0_13 v0_14 v0_15, zV9 h1 v1_0 r1_1 r1_2 r1_3 r1_4 v1_5 r1_6 r1_7 r1_8, zV2 r1_7 v2_0 v2_1 v2_2 r2_3 r2_4 r2_5, zVi r2_4 k3 14 f3, zVi r0_4 k4 14 s_6.2.2.2.2.2.2.1, zVi r0_5 k5 14 o_1.2, zVi r0_6 k6 28 s_6.2.2.2.2.2.2.2.1, zVi r0_7 k7 28 s_6.2.2.2.2.2.2.2.2.1, zVi r0_9 k8 14 s_6.2.2.2.2.2.2.2.2.2.1, zV4 r1_6 v9_0 v9_1 r9_2 r9_3 r9_4 r9_5 r9_6 r9_7 r9_8 r9_9, zVi r9_8 k10 28 f10, zVi r2_3 k11 14 f11, zVi r1_4 k12 4 f12, zV7 r0_0 r13_0 s_6.2.2.2.2.1 s_6.2.2.2.2.2.1, zVi r1_2 k14 4 f14, zVi r9_3 k15 14 f15, zVl r13_0 k16 14 s_6.2.2.2.2.2.2.2.2.2.2, zVi r9_9 k17 28 f17, zV6 r1_8 r18_0 r18_1 r18_2, zVl r18_0 k19 14 f19, zVl r18_1 k20 14 f20, zVi r1_3 k21 4 f21, zVi r9_5 k22 14 f22] H → va_D A [zV3 h0 r0_0 r0_1 v0_2 v0_3 r0_4 r0_5 r0_6 r0_7 s_6.2.2.2.1 r0_9 s_6.2.1 s_6.2.2.1 v0_12 v0_13 v0_14 v0_15, zV9 h1 v1_0 r1_1 r1_2 r1_3 r1_4 v1_5 r1_6 r1_7 r1_8, zV2 r1_7 v2_0 v2_1 v2_2 r2_3 r2_4 r2_5, zVi r2_4 k3 14 f3, zVi r0_4 k4 14 s_6.2.2.2.2.2.2.1, zVi r0_5 k5 14 o_1.2, zVi r0_6 k6 28 s_6.2.2.2.2.2.2.2.1, zVi r0_7 k7 28 s_6.2.2.2.2.2.2.2.2.1, zVi r0_9 k8 14 s_6.2.2.2.2.2.2.2.2.2.1, zV4 r1_6 v9_0 v9_1 r9_2 r9_3 r9_4 r9_5 r9_6 r9_7 r9_8 r9_9, zVi r9_8 k10 28 f10, zVi r2_3 k11 14 f11, zVi r1_4 k12 4 f12, zV7 r0_0 r13_0 s_6.2.2.2.2.1 s_6.2.2.2.2.2.1, zVi r1_2 k14 4 f14, zVi r9_3 k15 14 f15, zVl r13_0 k16 14 s_6.2.2.2.2.2.2.2.2.2.2, zVi r9_9 k17 28 f17, zV6 r1_8 r18_0 r18_1 r18_2, zVl r18_0 k19 14 f19, zVl r18_1 k20 14 f20, zVi r1_3 k21 4 f21, zVi r9_5 k22 14 f22] → va_S A s.heap H locs → lv_has ls 9 [(5, .int s_6.1), (0, .ref h0), (1, .ref h1), (2, .int p2), (3, .int p3)] → W p l e (headSpec wsX3_halveWith ({ frames := 5, cells := 0, slots := 0, locals := 152 })).room s m ([.ref h0, .ref h1, .int p2, .int p3] : List Value).toArray below meth c H locs 0 0 Q (F0 m 27 ls []) := by
      intro n
      induction n with
      | zero => exact fun _ _ _ _ hfn => (zl_0 hfn).elim
      | succ n ih_6 =>
        intro s_6 H locs ls hfn hP hD hS hl
        have hfn := zl_s ebd_6 hfn
        refine lv_iload hx hb dX3_halveWith_27 (lv_at hl 0 rfl) ?_
        refine lv_aload_n hx hb dX3_halveWith_29 rfl (lv_at hl 1 rfl) ?_
        refine va_get (D := (dC, dI)) (ci := 3) (v := .int s_6.2.2.2.1) (C := RX3) (T := TX3) (N := 16) hx hb hts zn_X3_halveWith_X3 hown hK hP 0 rfl rfl 8 (of_decide_eq_true rfl) (hts (.fieldLink RX3 101 "ShortEnough$LocalSearch" "parts" "I") zw_X3_halveWith_303) (fun _ h9 => h9) rfl dX3_halveWith_30 ?_
        refine lv_icmp_ge (tgt := 128) hx hb dX3_halveWith_33 (of_decide_eq_true rfl) (fun c_7 => ?_) (fun c_7 => ?_)
        · have hfn := (if_pos c_7).symm.trans hfn
          have ho := Option.some.inj hfn
          subst ho
          exact zrv hx hb hr hK hP hD hS hQ trivial hlocks dX3_halveWith_128
        have hfn := (if_neg c_7).symm.trans hfn
        refine lv_iload hx hb dX3_halveWith_36 (lv_at hl 0 rfl) ?_
        refine lv_bipush (v := 28) hx hb dX3_halveWith_38 zcb_28 ?_
        refine lv_icmp_ge (tgt := 128) hx hb dX3_halveWith_40 (of_decide_eq_true rfl) (fun c_8 => ?_) (fun c_8 => ?_)
        · have hfn := (if_pos c_8).symm.trans hfn
          have ho := Option.some.inj hfn
          subst ho
          exact zrv hx hb hr hK hP hD hS hQ trivial hlocks dX3_halveWith_128
        have hfn := (if_neg c_8).symm.trans hfn
        refine lv_aload_n hx hb dX3_halveWith_43 rfl (lv_at hl 1 rfl) ?_
        refine va_get (D := (dC, dI)) (ci := 3) (v := .ref r0_6) (C := RX3) (T := TX3) (N := 16) hx hb hts zn_X3_halveWith_X3 hown hK hP 0 rfl rfl 6 (of_decide_eq_true rfl) (hts (.fieldLink RX3 29 "ShortEnough$LocalSearch" "partFrom" "[I") zw_X3_halveWith_308) (fun _ h9 => h9) rfl dX3_halveWith_44 ?_
        refine lv_iload hx hb dX3_halveWith_47 (lv_at hl 0 rfl) ?_
        obtain ⟨h_9, hfn⟩ := zg_s hfn
        refine va_iald hx hb hK hP 6 3 rfl rfl h_9 dX3_halveWith_49 ?_
        refine lv_istore (lv' := [(6, .int (s_6.2.2.2.2.2.2.2.1 s_6.1.toNatClampNeg)), (5, .int s_6.1), (0, .ref h0), (1, .ref h1), (2, .int p2), (3, .int p3)]) hx hb dX3_halveWith_50 hl (of_decide_eq_true rfl) rfl (fun ls hl => ?_)
        refine lv_aload_n hx hb dX3_halveWith_52 rfl (lv_at hl 2 rfl) ?_
        refine va_get (D := (dC, dI)) (ci := 3) (v := .ref r0_7) (C := RX3) (T := TX3) (N := 16) hx hb hts zn_X3_halveWith_X3 hown hK hP 0 rfl rfl 7 (of_decide_eq_true rfl) (hts (.fieldLink RX3 32 "ShortEnough$LocalSearch" "partTo" "[I") zw_X3_halveWith_309) (fun _ h9 => h9) rfl dX3_halveWith_53 ?_
        refine lv_iload hx hb dX3_halveWith_56 (lv_at hl 1 rfl) ?_
        refine va_iald hx hb hK hP 7 4 rfl rfl h_9 dX3_halveWith_58 ?_
        refine lv_istore (lv' := [(7, .int (s_6.2.2.2.2.2.2.2.2.1 s_6.1.toNatClampNeg)), (6, .int (s_6.2.2.2.2.2.2.2.1 s_6.1.toNatClampNeg)), (5, .int s_6.1), (0, .ref h0), (1, .ref h1), (2, .int p2), (3, .int p3)]) hx hb dX3_halveWith_59 hl (of_decide_eq_true rfl) rfl (fun ls hl => ?_)
        refine lv_aload_n hx hb dX3_halveWith_61 rfl (lv_at hl 3 rfl) ?_
        refine lv_dup hx hb dX3_halveWith_62 rfl ?_
        refine va_get (D := (dC, dI)) (ci := 3) (v := .int s_6.2.2.1) (C := RX3) (T := TX3) (N := 16) hx hb hts zn_X3_halveWith_X3 hown hK hP 0 rfl rfl 11 (of_decide_eq_true rfl) (hts (.fieldLink RX3 72 "ShortEnough$LocalSearch" "tries" "I") zw_X3_halveWith_310) (fun _ h9 => h9) rfl dX3_halveWith_63 ?_
        refine lv_iconst (v := 1) hx hb dX3_halveWith_66 zci_1 ?_
        refine lv_iadd hx hb dX3_halveWith_67 ?_
        refine va_put (D := (dC, dI)) (ci := 3) (v := .int (s_6.2.2.1 + 1)) (ty := .int) (C := RX3) (T := TX3) (N := 16) hx hb hts zn_X3_halveWith_X3 tyX3 tyX3_ok nmX3 hown hK hP hD hS 0 rfl rfl 11 (of_decide_eq_true rfl) (hts (.fieldLink RX3 72 "ShortEnough$LocalSearch" "tries" "I") zw_X3_halveWith_310) (fun _ h9 => h9) rfl (tyX3_ok 11 (of_decide_eq_true rfl)) rfl rfl (Nat.le_of_ble_eq_true rfl) dX3_halveWith_68 (fun H locs hP hD hS => ?_)
        have hP : va_P (dC, dI) vwCl [zV3 h0 r0_0 r0_1 v0_2 v0_3 r0_4 r0_5 r0_6 r0_7 s_6.2.2.2.1 r0_9 s_6.2.1 (s_6.2.2.1 + 1) v0_12 v0_13 v0_14 v0_15, zV9 h1 v1_0 r1_1 r1_2 r1_3 r1_4 v1_5 r1_6 r1_7 r1_8, zV2 r1_7 v2_0 v2_1 v2_2 r2_3 r2_4 r2_5, zVi r2_4 k3 14 f3, zVi r0_4 k4 14 s_6.2.2.2.2.2.2.1, zVi r0_5 k5 14 o_1.2, zVi r0_6 k6 28 s_6.2.2.2.2.2.2.2.1, zVi r0_7 k7 28 s_6.2.2.2.2.2.2.2.2.1, zVi r0_9 k8 14 s_6.2.2.2.2.2.2.2.2.2.1, zV4 r1_6 v9_0 v9_1 r9_2 r9_3 r9_4 r9_5 r9_6 r9_7 r9_8 r9_9, zVi r9_8 k10 28 f10, zVi r2_3 k11 14 f11, zVi r1_4 k12 4 f12, zV7 r0_0 r13_0 s_6.2.2.2.2.1 s_6.2.2.2.2.2.1, zVi r1_2 k14 4 f14, zVi r9_3 k15 14 f15, zVl r13_0 k16 14 s_6.2.2.2.2.2.2.2.2.2.2, zVi r9_9 k17 28 f17, zV6 r1_8 r18_0 r18_1 r18_2, zVl r18_0 k19 14 f19, zVl r18_1 k20 14 f20, zVi r1_3 k21 4 f21, zVi r9_5 k22 14 f22] H := hP
        have hD := zDW hD hP rfl
        refine lv_aload_n hx hb dX3_halveWith_71 rfl (lv_at hl 3 rfl) ?_
        refine lv_aload_n hx hb dX3_halveWith_72 rfl (lv_at hl 4 rfl) ?_
        refine lv_iload hx hb dX3_halveWith_73 (lv_at hl 1 rfl) ?_
        refine lv_iload hx hb dX3_halveWith_75 (lv_at hl 0 rfl) ?_
        refine lv_iload_n hx hb dX3_halveWith_77 rfl (lv_at hl 5 rfl) ?_
        refine lv_iload_n hx hb dX3_halveWith_78 rfl (lv_at hl 6 rfl) ?_
        obtain ⟨o_10, hqo_10, hfn⟩ := zb_s hfn
        refine zcNVb (ci := 3) (rest := []) (pc' := 82) (ws' := [zV3 h0 r0_0 r0_1 v0_2 v0_3 r0_4 r0_5 r0_6 r0_7 s_6.2.2.2.1 r0_9 o_10.2.1 (s_6.2.2.1 + 1) v0_12 v0_13 v0_14 v0_15, zV9 h1 v1_0 r1_1 r1_2 r1_3 r1_4 v1_5 r1_6 r1_7 r1_8, zV2 r1_7 v2_0 v2_1 v2_2 r2_3 r2_4 r2_5, zVi r2_4 k3 14 f3, zVi r0_4 k4 14 o_10.2.2.2.2.2.2, zVi r0_5 k5 14 o_1.2, zVi r0_6 k6 28 s_6.2.2.2.2.2.2.2.1, zVi r0_7 k7 28 s_6.2.2.2.2.2.2.2.2.1, zVi r0_9 k8 14 o_10.2.2.1, zV4 r1_6 v9_0 v9_1 r9_2 r9_3 r9_4 r9_5 r9_6 r9_7 r9_8 r9_9, zVi r9_8 k10 28 f10, zVi r2_3 k11 14 f11, zVi r1_4 k12 4 f12, zV7 r0_0 r13_0 o_10.2.2.2.1 o_10.2.2.2.2.1, zVi r1_2 k14 4 f14, zVi r9_3 k15 14 f15, zVl r13_0 k16 14 o_10.2.2.2.2.2.1, zVi r9_9 k17 28 f17, zV6 r1_8 r18_0 r18_1 r18_2, zVl r18_0 k19 14 f19, zVl r18_1 k20 14 f20, zVi r1_3 k21 4 f21, zVi r9_5 k22 14 f22]) hP hK hD hS hA ⟨hx, hb, hml, hown, hts⟩ (zf_X3_changePart l dC dI h0 h1 (s_6.2.2.2.2.2.2.2.1 s_6.1.toNatClampNeg) (s_6.2.2.2.2.2.2.2.2.1 s_6.1.toNatClampNeg) p2 p3 r0_0 r0_1 v0_2 v0_3 r0_4 r0_5 r0_6 r0_7 s_6.2.2.2.1 r0_9 s_6.2.1 (s_6.2.2.1 + 1) v0_12 v0_13 v0_14 v0_15 k5 o_1.2 k8 s_6.2.2.2.2.2.2.2.2.2.1 v1_0 r1_1 r1_2 r1_3 r1_4 v1_5 r1_6 r1_7 r1_8 v9_0 v9_1 r9_2 r9_3 r9_4 r9_5 r9_6 r9_7 r9_8 r9_9 k10 f10 v2_0 v2_1 v2_2 r2_3 r2_4 r2_5 k11 f11 k12 f12 r13_0 s_6.2.2.2.2.1 s_6.2.2.2.2.2.1 k14 f14 k15 f15 k16 s_6.2.2.2.2.2.2.2.2.2.2 k17 f17 r18_0 r18_1 r18_2 k19 f19 k20 f20 k21 f21 k22 f22 k4 s_6.2.2.2.2.2.2.1 o_10 hqo_10 H.size) ⟨hn0, trivial⟩ (cwV 5 hts gX3_halveWith_X3_changePart rfl rfl rfl zhd_X3_changePart ⟨Nat.le_of_ble_eq_true rfl, Nat.le_of_ble_eq_true rfl⟩) [0, 5, 8, 1, 9, 10, 2, 11, 12, 13, 14, 15, 16, 17, 18, 19, 20, 21, 22, 4] rfl (of_decide_eq_true rfl) [2, 5, 6, 7, 8, 9, 10, 11, 12, 13, 14, 15, 16, 1] rfl rfl rfl rfl hl.1 rfl (Nat.le_of_ble_eq_true rfl) dX3_halveWith_79 ⟨Nat.le_of_ble_eq_true rfl, Nat.le_of_ble_eq_true rfl⟩ [some 0, some 3, some 6, none, some 19, some 1, none, none, some 2, some 4, some 5, some 7, some 8, some 9, some 10, some 11, some 12, some 13, some 14, some 15, some 16, some 17, some 18] (of_decide_eq_true rfl) (of_decide_eq_true rfl) rfl rfl rfl (fun H locs hw_13n hP hD hS => ?_)
        refine lv_if_ne (tgt := 122) hx hb dX3_halveWith_82 (of_decide_eq_true rfl) (fun c_14 => ?_) (fun c_14 => ?_)
        · have hfn := (if_neg c_14).symm.trans hfn
          refine lv_iinc (v := (s_6.1 + 1)) (lv' := [(5, .int (s_6.1 + 1)), (7, .int (s_6.2.2.2.2.2.2.2.2.1 s_6.1.toNatClampNeg)), (6, .int (s_6.2.2.2.2.2.2.2.1 s_6.1.toNatClampNeg)), (0, .ref h0), (1, .ref h1), (2, .int p2), (3, .int p3)]) hx hb dX3_halveWith_122 hl (k := 2) rfl rfl (of_decide_eq_true rfl) rfl (fun ls hl => ?_)
          refine lv_goto (tgt := 27) hx hb dX3_halveWith_125 (of_decide_eq_true rfl) ?_
          exact ih_6 ((s_6.1 + 1), o_10.2.1, (s_6.2.2.1 + 1), s_6.2.2.2.1, o_10.2.2.2.1, o_10.2.2.2.2.1, o_10.2.2.2.2.2.2, s_6.2.2.2.2.2.2.2.1, s_6.2.2.2.2.2.2.2.2.1, o_10.2.2.1, o_10.2.2.2.2.2.1) H locs ls hfn hP hD hS (lv_sub hl [0, 3, 4, 5, 6] rfl)
        have hfn := (if_pos c_14).symm.trans hfn
        refine lv_iload hx hb dX3_halveWith_85 (lv_at hl 0 rfl) ?_
        refine lv_iload hx hb dX3_halveWith_87 (lv_at hl 1 rfl) ?_
        refine lv_isub hx hb dX3_halveWith_89 ?_
        refine lv_topi (fun x_15 ex_15 => ?_)
        have hfn := zn_s hfn ex_15
        refine lv_iconst (v := 2) hx hb dX3_halveWith_90 zci_2 ?_
        refine lv_icmp_lt (tgt := 122) hx hb dX3_halveWith_91 (of_decide_eq_true rfl) (fun c_16 => ?_) (fun c_16 => ?_)
        · have hfn := (if_pos c_16).symm.trans hfn
          refine lv_iinc (v := (s_6.1 + 1)) (lv' := [(5, .int (s_6.1 + 1)), (7, .int (s_6.2.2.2.2.2.2.2.2.1 s_6.1.toNatClampNeg)), (6, .int (s_6.2.2.2.2.2.2.2.1 s_6.1.toNatClampNeg)), (0, .ref h0), (1, .ref h1), (2, .int p2), (3, .int p3)]) hx hb dX3_halveWith_122 hl (k := 2) rfl rfl (of_decide_eq_true rfl) rfl (fun ls hl => ?_)
          refine lv_goto (tgt := 27) hx hb dX3_halveWith_125 (of_decide_eq_true rfl) ?_
          exact ih_6 ((s_6.1 + 1), o_10.2.1, (s_6.2.2.1 + 1), s_6.2.2.2.1, o_10.2.2.2.1, o_10.2.2.2.2.1, o_10.2.2.2.2.2.2, s_6.2.2.2.2.2.2.2.1, s_6.2.2.2.2.2.2.2.2.1, o_10.2.2.1, o_10.2.2.2.2.2.1) H locs ls hfn hP hD hS (lv_sub hl [0, 3, 4, 5, 6] rfl)
        have hfn := (if_neg c_16).symm.trans hfn
        refine lv_iload hx hb dX3_halveWith_94 (lv_at hl 1 rfl) ?_
        refine lv_iload hx hb dX3_halveWith_96 (lv_at hl 0 rfl) ?_
        refine lv_iload hx hb dX3_halveWith_98 (lv_at hl 1 rfl) ?_
        refine lv_isub hx hb dX3_halveWith_100 ?_
        refine lv_topi (fun x_17 ex_17 => ?_)
        have hfn := zn_s hfn ex_17
        refine lv_iconst (v := 2) hx hb dX3_halveWith_101 zci_2 ?_
        refine lv_idiv hx hb dX3_halveWith_102 (by decide +kernel) ?_
        refine lv_iadd hx hb dX3_halveWith_103 ?_
        refine lv_istore (lv' := [(8, .int ((s_6.2.2.2.2.2.2.2.1 s_6.1.toNatClampNeg) + (x_17 / 2))), (7, .int (s_6.2.2.2.2.2.2.2.2.1 s_6.1.toNatClampNeg)), (6, .int (s_6.2.2.2.2.2.2.2.1 s_6.1.toNatClampNeg)), (5, .int s_6.1), (0, .ref h0), (1, .ref h1), (2, .int p2), (3, .int p3)]) hx hb dX3_halveWith_104 hl (of_decide_eq_true rfl) rfl (fun ls hl => ?_)
        refine lv_aload_n hx hb dX3_halveWith_106 rfl (lv_at hl 4 rfl) ?_
        refine lv_iload hx hb dX3_halveWith_107 (lv_at hl 2 rfl) ?_
        refine lv_iload hx hb dX3_halveWith_109 (lv_at hl 0 rfl) ?_
        obtain ⟨o_18, hqo_18, hfn⟩ := zb_s hfn
        refine zcVv (ci := 3) (rest := []) (pc' := 114) (ws' := [zV3 h0 r0_0 r0_1 v0_2 v0_3 r0_4 r0_5 r0_6 r0_7 o_18.1 r0_9 o_10.2.1 (s_6.2.2.1 + 1) v0_12 v0_13 v0_14 v0_15, zV9 h1 v1_0 r1_1 r1_2 r1_3 r1_4 v1_5 r1_6 r1_7 r1_8, zV2 r1_7 v2_0 v2_1 v2_2 r2_3 r2_4 r2_5, zVi r2_4 k3 14 f3, zVi r0_4 k4 14 o_10.2.2.2.2.2.2, zVi r0_5 k5 14 o_1.2, zVi r0_6 k6 28 o_18.2.1, zVi r0_7 k7 28 o_18.2.2, zVi r0_9 k8 14 o_10.2.2.1, zV4 r1_6 v9_0 v9_1 r9_2 r9_3 r9_4 r9_5 r9_6 r9_7 r9_8 r9_9, zVi r9_8 k10 28 f10, zVi r2_3 k11 14 f11, zVi r1_4 k12 4 f12, zV7 r0_0 r13_0 o_10.2.2.2.1 o_10.2.2.2.2.1, zVi r1_2 k14 4 f14, zVi r9_3 k15 14 f15, zVl r13_0 k16 14 o_10.2.2.2.2.2.1, zVi r9_9 k17 28 f17, zV6 r1_8 r18_0 r18_1 r18_2, zVl r18_0 k19 14 f19, zVl r18_1 k20 14 f20, zVi r1_3 k21 4 f21, zVi r9_5 k22 14 f22]) hP hK hD hS hA ⟨hx, hb, hml, hown, hts⟩ (zf_X3_addPart l dC dI h0 (s_6.2.2.2.2.2.2.2.1 s_6.1.toNatClampNeg) ((s_6.2.2.2.2.2.2.2.1 s_6.1.toNatClampNeg) + (x_17 / 2)) r0_0 r0_1 v0_2 v0_3 r0_4 r0_5 r0_6 r0_7 s_6.2.2.2.1 r0_9 o_10.2.1 (s_6.2.2.1 + 1) v0_12 v0_13 v0_14 v0_15 k6 s_6.2.2.2.2.2.2.2.1 k7 s_6.2.2.2.2.2.2.2.2.1 o_18 hqo_18 H.size) (cwV 2 hts gX3_halveWith_X3_addPart rfl rfl rfl zhd_X3_addPart ⟨Nat.le_of_ble_eq_true rfl, Nat.le_of_ble_eq_true rfl⟩) [0, 6, 7] rfl (of_decide_eq_true rfl) [3, 4] rfl rfl rfl rfl hl.1 rfl (Nat.le_of_ble_eq_true rfl) dX3_halveWith_111 ⟨Nat.le_of_ble_eq_true rfl, Nat.le_of_ble_eq_true rfl⟩ [some 0, none, none, none, none, none, some 1, some 2] (of_decide_eq_true rfl) (of_decide_eq_true rfl) rfl rfl rfl (fun H locs hP hD hS => ?_)
        refine lv_aload_n hx hb dX3_halveWith_114 rfl (lv_at hl 4 rfl) ?_
        refine lv_iload hx hb dX3_halveWith_115 (lv_at hl 0 rfl) ?_
        refine lv_iload hx hb dX3_halveWith_117 (lv_at hl 1 rfl) ?_
        obtain ⟨o_22, hqo_22, hfn⟩ := zb_s hfn
        refine zcVv (ci := 3) (rest := []) (pc' := 122) (ws' := [zV3 h0 r0_0 r0_1 v0_2 v0_3 r0_4 r0_5 r0_6 r0_7 o_22.1 r0_9 o_10.2.1 (s_6.2.2.1 + 1) v0_12 v0_13 v0_14 v0_15, zV9 h1 v1_0 r1_1 r1_2 r1_3 r1_4 v1_5 r1_6 r1_7 r1_8, zV2 r1_7 v2_0 v2_1 v2_2 r2_3 r2_4 r2_5, zVi r2_4 k3 14 f3, zVi r0_4 k4 14 o_10.2.2.2.2.2.2, zVi r0_5 k5 14 o_1.2, zVi r0_6 k6 28 o_22.2.1, zVi r0_7 k7 28 o_22.2.2, zVi r0_9 k8 14 o_10.2.2.1, zV4 r1_6 v9_0 v9_1 r9_2 r9_3 r9_4 r9_5 r9_6 r9_7 r9_8 r9_9, zVi r9_8 k10 28 f10, zVi r2_3 k11 14 f11, zVi r1_4 k12 4 f12, zV7 r0_0 r13_0 o_10.2.2.2.1 o_10.2.2.2.2.1, zVi r1_2 k14 4 f14, zVi r9_3 k15 14 f15, zVl r13_0 k16 14 o_10.2.2.2.2.2.1, zVi r9_9 k17 28 f17, zV6 r1_8 r18_0 r18_1 r18_2, zVl r18_0 k19 14 f19, zVl r18_1 k20 14 f20, zVi r1_3 k21 4 f21, zVi r9_5 k22 14 f22]) hP hK hD hS hA ⟨hx, hb, hml, hown, hts⟩ (zf_X3_addPart l dC dI h0 ((s_6.2.2.2.2.2.2.2.1 s_6.1.toNatClampNeg) + (x_17 / 2)) (s_6.2.2.2.2.2.2.2.2.1 s_6.1.toNatClampNeg) r0_0 r0_1 v0_2 v0_3 r0_4 r0_5 r0_6 r0_7 o_18.1 r0_9 o_10.2.1 (s_6.2.2.1 + 1) v0_12 v0_13 v0_14 v0_15 k6 o_18.2.1 k7 o_18.2.2 o_22 hqo_22 H.size) (cwV 2 hts gX3_halveWith_X3_addPart rfl rfl rfl zhd_X3_addPart ⟨Nat.le_of_ble_eq_true rfl, Nat.le_of_ble_eq_true rfl⟩) [0, 6, 7] rfl (of_decide_eq_true rfl) [3, 4] rfl rfl rfl rfl hl.1 rfl (Nat.le_of_ble_eq_true rfl) dX3_halveWith_119 ⟨Nat.le_of_ble_eq_true rfl, Nat.le_of_ble_eq_true rfl⟩ [some 0, none, none, none, none, none, some 1, some 2] (of_decide_eq_true rfl) (of_decide_eq_true rfl) rfl rfl rfl (fun H locs hP hD hS => ?_)
        refine lv_iinc (v := (s_6.1 + 1)) (lv' := [(5, .int (s_6.1 + 1)), (8, .int ((s_6.2.2.2.2.2.2.2.1 s_6.1.toNatClampNeg) + (x_17 / 2))), (7, .int (s_6.2.2.2.2.2.2.2.2.1 s_6.1.toNatClampNeg)), (6, .int (s_6.2.2.2.2.2.2.2.1 s_6.1.toNatClampNeg)), (0, .ref h0), (1, .ref h1), (2, .int p2), (3, .int p3)]) hx hb dX3_halveWith_122 hl (k := 3) rfl rfl (of_decide_eq_true rfl) rfl (fun ls hl => ?_)
        refine lv_goto (tgt := 27) hx hb dX3_halveWith_125 (of_decide_eq_true rfl) ?_
        exact ih_6 ((s_6.1 + 1), o_10.2.1, (s_6.2.2.1 + 1), o_22.1, o_10.2.2.2.1, o_10.2.2.2.2.1, o_10.2.2.2.2.2.2, o_22.2.1, o_22.2.2, o_10.2.2.1, o_10.2.2.2.2.2.1) H locs ls hfn hP hD hS (lv_sub hl [0, 4, 5, 6, 7] rfl)
    exact lp_6 _ (0, v0_10, v0_11, s_5.1, v13_1, v13_2, f4, s_5.2.1, s_5.2.2, f8, f16) H locs ls hfn hP hD hS (lv_sub hl [0, 1, 2, 3, 4] rfl)
  refine lv_if_le (tgt := 24) hx hb dX3_halveWith_14 (of_decide_eq_true rfl) (fun c_26 => ?_) (fun c_26 => ?_)
  · have hfn := (if_pos c_26).symm.trans hfn
    exact jp_5 (0, f6, f7) H locs ls hfn hP hD hS (lv_sub hl [1, 2, 3, 4] rfl)
  have hfn := (if_neg c_26).symm.trans hfn
  refine lv_aload_n hx hb dX3_halveWith_17 rfl (lv_at hl 1 rfl) ?_
  refine lv_iconst (v := 0) hx hb dX3_halveWith_18 zci_0 ?_
  refine lv_iload hx hb dX3_halveWith_19 (lv_at hl 0 rfl) ?_
  obtain ⟨o_27, hqo_27, hfn⟩ := zb_s hfn
  refine zcVv (ci := 3) (rest := []) (pc' := 24) (ws' := [zV3 h0 r0_0 r0_1 v0_2 v0_3 r0_4 r0_5 r0_6 r0_7 o_27.1 r0_9 v0_10 v0_11 v0_12 v0_13 v0_14 v0_15, zV9 h1 v1_0 r1_1 r1_2 r1_3 r1_4 v1_5 r1_6 r1_7 r1_8, zV2 r1_7 v2_0 v2_1 v2_2 r2_3 r2_4 r2_5, zVi r2_4 k3 14 f3, zVi r0_4 k4 14 f4, zVi r0_5 k5 14 o_1.2, zVi r0_6 k6 28 o_27.2.1, zVi r0_7 k7 28 o_27.2.2, zVi r0_9 k8 14 f8, zV4 r1_6 v9_0 v9_1 r9_2 r9_3 r9_4 r9_5 r9_6 r9_7 r9_8 r9_9, zVi r9_8 k10 28 f10, zVi r2_3 k11 14 f11, zVi r1_4 k12 4 f12, zV7 r0_0 r13_0 v13_1 v13_2, zVi r1_2 k14 4 f14, zVi r9_3 k15 14 f15, zVl r13_0 k16 14 f16, zVi r9_9 k17 28 f17, zV6 r1_8 r18_0 r18_1 r18_2, zVl r18_0 k19 14 f19, zVl r18_1 k20 14 f20, zVi r1_3 k21 4 f21, zVi r9_5 k22 14 f22]) hP hK hD hS hA ⟨hx, hb, hml, hown, hts⟩ (zf_X3_addPart l dC dI h0 0 o_1.1 r0_0 r0_1 v0_2 v0_3 r0_4 r0_5 r0_6 r0_7 0 r0_9 v0_10 v0_11 v0_12 v0_13 v0_14 v0_15 k6 f6 k7 f7 o_27 hqo_27 H.size) (cwV 2 hts gX3_halveWith_X3_addPart rfl rfl rfl zhd_X3_addPart ⟨Nat.le_of_ble_eq_true rfl, Nat.le_of_ble_eq_true rfl⟩) [0, 6, 7] rfl (of_decide_eq_true rfl) [3, 4] rfl rfl rfl rfl hl.1 rfl (Nat.le_of_ble_eq_true rfl) dX3_halveWith_21 ⟨Nat.le_of_ble_eq_true rfl, Nat.le_of_ble_eq_true rfl⟩ [some 0, none, none, none, none, none, some 1, some 2] (of_decide_eq_true rfl) (of_decide_eq_true rfl) rfl rfl rfl (fun H locs hP hD hS => ?_)
  exact jp_5 (o_27.1, o_27.2.1, o_27.2.2) H locs ls hfn hP hD hS (lv_sub hl [1, 2, 3, 4] rfl)
