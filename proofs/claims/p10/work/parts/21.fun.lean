theorem zn_X12_laysCouple_X12 : ∀ w ∈ wsX120, w ∈ wsX12_laysCouple := fun _ h => List.mem_cons_of_mem _ (List.mem_append_right _ h)
theorem zw_X12_laysCouple_1294 : Cond.fieldLink RX12 186 "ShortEnoughModel" "fronts" "I" ∈ wsX12_laysCouple := List.mem_of_getElem? (i := 1) (by decide +kernel)
theorem zw_X12_laysCouple_1295 : Cond.fieldLink RX12 177 "ShortEnoughModel" "frontCost" "[I" ∈ wsX12_laysCouple := List.mem_of_getElem? (i := 2) (by decide +kernel)
theorem zw_X12_laysCouple_1296 : Cond.fieldLink RX12 180 "ShortEnoughModel" "frontError" "[J" ∈ wsX12_laysCouple := List.mem_of_getElem? (i := 3) (by decide +kernel)
theorem zw_X12_laysCouple_1297 : Cond.fieldLink RX12 183 "ShortEnoughModel" "frontMany" "[I" ∈ wsX12_laysCouple := List.mem_of_getElem? (i := 4) (by decide +kernel)
set_option maxHeartbeats 4000000 in
set_option maxRecDepth 100000 in
theorem zf_X12_laysCouple (l : Launch) (dC : Nat → ClassId) (dI : Nat → Nat → Nat) (h0 : Nat) (p1 : Int32) (j2 : Int64) (a0 : Nat → Nat) (b0 : Nat → Int32) (c0 : Nat → Int64) (k1 : Nat) (f1 : Nat → Int32) (k2 : Nat) (f2 : Nat → Int64) (k3 : Nat) (f3 : Nat → Int32) (o : Int32 × (Nat → Int32) × (Nat → Int64) × (Nat → Int32)) (hfn : fn_X12_laysCouple p1 j2 (b0 57) f1 f2 f3 = some o) (sz : Nat) : zMv l yX12_laysCouple wsX12_laysCouple ({ frames := 0, cells := 0, slots := 0, locals := 0 }) (dC, dI) vwCl [.ref h0, .int p1, .long j2] [(h0, .inr (12, zO a0 b0 c0)), zVi (a0 54) k1 1024 f1, zVl (a0 55) k2 1024 f2, zVi (a0 56) k3 1024 f3] [(k1, .int), (k2, .long), (k3, .int)] (fun _ => True) [(h0, .inr (12, zO a0 (zI b0 57 o.1) c0)), zVi (a0 54) k1 1024 o.2.1, zVl (a0 55) k2 1024 o.2.2.1, zVi (a0 56) k3 1024 o.2.2.2] [(k1, .int), (k2, .long), (k3, .int)] sz := by
  refine zgov (cc := cX12_laysCouple) (maxL := 6) (ret := none) (C0 := RX12) (lv0 := [(0, .ref h0), (1, .int p1), (2, .long j2)]) zpl_X12 rfl rfl rfl (Nat.le_of_ble_eq_true rfl) ?_
  intro p e s m below meth c A ls Q hx hb hr hts hown hlocks hml hP hK hD hA hS hl hQ
  unfold fn_X12_laysCouple at hfn
  refine lv_iconst (v := 0) hx hb dX12_laysCouple_0 zci_0 ?_
  refine lv_istore (lv' := [(4, .int 0), (0, .ref h0), (1, .int p1), (2, .long j2)]) hx hb dX12_laysCouple_1 hl (of_decide_eq_true rfl) rfl (fun ls hl => ?_)
  obtain ⟨bd_1, ebd_1, hfn⟩ := zl_g hfn
  have lp_1 : ∀ (n : Nat) (s_1 : Int32) (H : Heap) (locs : List Loc) (ls : Array Slot), zl bd_1 n s_1 = some o → va_P (dC, dI) vwCl [(h0, .inr (12, zO a0 b0 c0)), zVi (a0 54) k1 1024 f1, zVl (a0 55) k2 1024 f2, zVi (a0 56) k3 1024 f3] H → va_D A [(h0, .inr (12, zO a0 b0 c0)), zVi (a0 54) k1 1024 f1, zVl (a0 55) k2 1024 f2, zVi (a0 56) k3 1024 f3] → va_S A s.heap H locs → lv_has ls 6 [(4, .int s_1), (0, .ref h0), (1, .int p1), (2, .long j2)] → W p l e (headSpec wsX12_laysCouple ({ frames := 0, cells := 0, slots := 0, locals := 0 })).room s m ([.ref h0, .int p1, .long j2] : List Value).toArray below meth c H locs 0 0 Q (F0 m 3 ls []) := by
    intro n
    induction n with
    | zero => exact fun _ _ _ _ hfn => (zl_0 hfn).elim
    | succ n ih_1 =>
      intro s_1 H locs ls hfn hP hD hS hl
      have hfn := zl_s ebd_1 hfn
      refine lv_iload hx hb dX12_laysCouple_3 (lv_at hl 0 rfl) ?_
      refine lv_aload_n hx hb dX12_laysCouple_5 rfl (lv_at hl 1 rfl) ?_
      refine va_get (D := (dC, dI)) (ci := 12) (v := .int (b0 57)) (C := RX12) (T := TX12) (N := 67) hx hb hts zn_X12_laysCouple_X12 hown hK hP 0 rfl rfl 57 (of_decide_eq_true rfl) (hts (.fieldLink RX12 186 "ShortEnoughModel" "fronts" "I") zw_X12_laysCouple_1294) (fun _ h9 => h9) rfl dX12_laysCouple_6 ?_
      obtain ⟨j_2, ej_2, hfn⟩ := zj_g hfn
      have jp_2 : ∀ (s_2 : Unit) (H : Heap) (locs : List Loc) (ls : Array Slot), j_2 s_2 = some o → va_P (dC, dI) vwCl [(h0, .inr (12, zO a0 b0 c0)), zVi (a0 54) k1 1024 f1, zVl (a0 55) k2 1024 f2, zVi (a0 56) k3 1024 f3] H → va_D A [(h0, .inr (12, zO a0 b0 c0)), zVi (a0 54) k1 1024 f1, zVl (a0 55) k2 1024 f2, zVi (a0 56) k3 1024 f3] → va_S A s.heap H locs → lv_has ls 6 [(4, .int s_1), (0, .ref h0), (1, .int p1), (2, .long j2)] → W p l e (headSpec wsX12_laysCouple ({ frames := 0, cells := 0, slots := 0, locals := 0 })).room s m ([.ref h0, .int p1, .long j2] : List Value).toArray below meth c H locs 0 0 Q (F0 m 52 ls []) := by
        intro s_2 H locs ls hfn hP hD hS hl
        have hfn := zj_s ej_2 hfn
        refine lv_iload hx hb dX12_laysCouple_52 (lv_at hl 0 rfl) ?_
        refine lv_aload_n hx hb dX12_laysCouple_54 rfl (lv_at hl 1 rfl) ?_
        refine va_get (D := (dC, dI)) (ci := 12) (v := .int (b0 57)) (C := RX12) (T := TX12) (N := 67) hx hb hts zn_X12_laysCouple_X12 hown hK hP 0 rfl rfl 57 (of_decide_eq_true rfl) (hts (.fieldLink RX12 186 "ShortEnoughModel" "fronts" "I") zw_X12_laysCouple_1294) (fun _ h9 => h9) rfl dX12_laysCouple_55 ?_
        obtain ⟨j_3, ej_3, hfn⟩ := zj_g hfn
        have jp_3 : ∀ (s_3 : Unit) (H : Heap) (locs : List Loc) (ls : Array Slot), j_3 s_3 = some o → va_P (dC, dI) vwCl [(h0, .inr (12, zO a0 b0 c0)), zVi (a0 54) k1 1024 f1, zVl (a0 55) k2 1024 f2, zVi (a0 56) k3 1024 f3] H → va_D A [(h0, .inr (12, zO a0 b0 c0)), zVi (a0 54) k1 1024 f1, zVl (a0 55) k2 1024 f2, zVi (a0 56) k3 1024 f3] → va_S A s.heap H locs → lv_has ls 6 [(4, .int s_1), (0, .ref h0), (1, .int p1), (2, .long j2)] → W p l e (headSpec wsX12_laysCouple ({ frames := 0, cells := 0, slots := 0, locals := 0 })).room s m ([.ref h0, .int p1, .long j2] : List Value).toArray below meth c H locs 0 0 Q (F0 m 96 ls []) := by
          intro s_3 H locs ls hfn hP hD hS hl
          have hfn := zj_s ej_3 hfn
          refine lv_aload_n hx hb dX12_laysCouple_96 rfl (lv_at hl 1 rfl) ?_
          refine va_get (D := (dC, dI)) (ci := 12) (v := .int (b0 57)) (C := RX12) (T := TX12) (N := 67) hx hb hts zn_X12_laysCouple_X12 hown hK hP 0 rfl rfl 57 (of_decide_eq_true rfl) (hts (.fieldLink RX12 186 "ShortEnoughModel" "fronts" "I") zw_X12_laysCouple_1294) (fun _ h9 => h9) rfl dX12_laysCouple_97 ?_
          refine lv_istore (lv' := [(5, .int (b0 57)), (4, .int s_1), (0, .ref h0), (1, .int p1), (2, .long j2)]) hx hb dX12_laysCouple_100 hl (of_decide_eq_true rfl) rfl (fun ls hl => ?_)
          obtain ⟨bd_4, ebd_4, hfn⟩ := zl_g hfn
          have lp_4 : ∀ (n : Nat) (s_4 : Int32 × (Nat → Int32) × (Nat → Int64) × (Nat → Int32)) (H : Heap) (locs : List Loc) (ls : Array Slot), zl bd_4 n s_4 = some o → va_P (dC, dI) vwCl [(h0, .inr (12, zO a0 b0 c0)), zVi (a0 54) k1 1024 s_4.2.1, zVl (a0 55) k2 1024 s_4.2.2.1, zVi (a0 56) k3 1024 s_4.2.2.2] H → va_D A [(h0, .inr (12, zO a0 b0 c0)), zVi (a0 54) k1 1024 s_4.2.1, zVl (a0 55) k2 1024 s_4.2.2.1, zVi (a0 56) k3 1024 s_4.2.2.2] → va_S A s.heap H locs → lv_has ls 6 [(5, .int s_4.1), (4, .int s_1), (0, .ref h0), (1, .int p1), (2, .long j2)] → W p l e (headSpec wsX12_laysCouple ({ frames := 0, cells := 0, slots := 0, locals := 0 })).room s m ([.ref h0, .int p1, .long j2] : List Value).toArray below meth c H locs 0 0 Q (F0 m 102 ls []) := by
            intro n
            induction n with
            | zero => exact fun _ _ _ _ hfn => (zl_0 hfn).elim
            | succ n ih_4 =>
              intro s_4 H locs ls hfn hP hD hS hl
              have hfn := zl_s ebd_4 hfn
              refine lv_iload hx hb dX12_laysCouple_102 (lv_at hl 0 rfl) ?_
              refine lv_iload hx hb dX12_laysCouple_104 (lv_at hl 1 rfl) ?_
              refine lv_icmp_le (tgt := 163) hx hb dX12_laysCouple_106 (of_decide_eq_true rfl) (fun c_5 => ?_) (fun c_5 => ?_)
              · have hfn := (if_pos c_5).symm.trans hfn
                refine lv_aload_n hx hb dX12_laysCouple_163 rfl (lv_at hl 2 rfl) ?_
                refine va_get (D := (dC, dI)) (ci := 12) (v := .ref (a0 54)) (C := RX12) (T := TX12) (N := 67) hx hb hts zn_X12_laysCouple_X12 hown hK hP 0 rfl rfl 54 (of_decide_eq_true rfl) (hts (.fieldLink RX12 177 "ShortEnoughModel" "frontCost" "[I") zw_X12_laysCouple_1295) (fun _ h9 => h9) rfl dX12_laysCouple_164 ?_
                refine lv_iload hx hb dX12_laysCouple_167 (lv_at hl 1 rfl) ?_
                refine lv_iload_n hx hb dX12_laysCouple_169 rfl (lv_at hl 3 rfl) ?_
                obtain ⟨h_6, hfn⟩ := zg_s hfn
                refine va_iast hx hb hK hP hD hS 1 0 rfl rfl h_6 dX12_laysCouple_170 (fun H locs hP hD hS => ?_)
                have hP : va_P (dC, dI) vwCl [(h0, .inr (12, zO a0 b0 c0)), zVi (a0 54) k1 1024 (upd s_4.2.1 s_1.toNatClampNeg p1), zVl (a0 55) k2 1024 s_4.2.2.1, zVi (a0 56) k3 1024 s_4.2.2.2] H := hP
                have hD := zDW hD hP rfl
                refine lv_aload_n hx hb dX12_laysCouple_171 rfl (lv_at hl 2 rfl) ?_
                refine va_get (D := (dC, dI)) (ci := 12) (v := .ref (a0 55)) (C := RX12) (T := TX12) (N := 67) hx hb hts zn_X12_laysCouple_X12 hown hK hP 0 rfl rfl 55 (of_decide_eq_true rfl) (hts (.fieldLink RX12 180 "ShortEnoughModel" "frontError" "[J") zw_X12_laysCouple_1296) (fun _ h9 => h9) rfl dX12_laysCouple_172 ?_
                refine lv_iload hx hb dX12_laysCouple_175 (lv_at hl 1 rfl) ?_
                refine lv_lload_n hx hb dX12_laysCouple_177 rfl (lv_at hl 4 rfl) ?_
                refine va_last hx hb hK hP hD hS 2 1 rfl rfl h_6 dX12_laysCouple_178 (fun H locs hP hD hS => ?_)
                have hP : va_P (dC, dI) vwCl [(h0, .inr (12, zO a0 b0 c0)), zVi (a0 54) k1 1024 (upd s_4.2.1 s_1.toNatClampNeg p1), zVl (a0 55) k2 1024 (vp_updL s_4.2.2.1 s_1.toNatClampNeg j2), zVi (a0 56) k3 1024 s_4.2.2.2] H := hP
                have hD := zDW hD hP rfl
                refine lv_aload_n hx hb dX12_laysCouple_179 rfl (lv_at hl 2 rfl) ?_
                refine va_get (D := (dC, dI)) (ci := 12) (v := .ref (a0 56)) (C := RX12) (T := TX12) (N := 67) hx hb hts zn_X12_laysCouple_X12 hown hK hP 0 rfl rfl 56 (of_decide_eq_true rfl) (hts (.fieldLink RX12 183 "ShortEnoughModel" "frontMany" "[I") zw_X12_laysCouple_1297) (fun _ h9 => h9) rfl dX12_laysCouple_180 ?_
                refine lv_iload hx hb dX12_laysCouple_183 (lv_at hl 1 rfl) ?_
                refine lv_iconst (v := 1) hx hb dX12_laysCouple_185 zci_1 ?_
                refine va_iast hx hb hK hP hD hS 3 2 rfl rfl h_6 dX12_laysCouple_186 (fun H locs hP hD hS => ?_)
                have hP : va_P (dC, dI) vwCl [(h0, .inr (12, zO a0 b0 c0)), zVi (a0 54) k1 1024 (upd s_4.2.1 s_1.toNatClampNeg p1), zVl (a0 55) k2 1024 (vp_updL s_4.2.2.1 s_1.toNatClampNeg j2), zVi (a0 56) k3 1024 (upd s_4.2.2.2 s_1.toNatClampNeg 1)] H := hP
                have hD := zDW hD hP rfl
                refine lv_aload_n hx hb dX12_laysCouple_187 rfl (lv_at hl 2 rfl) ?_
                refine lv_dup hx hb dX12_laysCouple_188 rfl ?_
                refine va_get (D := (dC, dI)) (ci := 12) (v := .int (b0 57)) (C := RX12) (T := TX12) (N := 67) hx hb hts zn_X12_laysCouple_X12 hown hK hP 0 rfl rfl 57 (of_decide_eq_true rfl) (hts (.fieldLink RX12 186 "ShortEnoughModel" "fronts" "I") zw_X12_laysCouple_1294) (fun _ h9 => h9) rfl dX12_laysCouple_189 ?_
                refine lv_iconst (v := 1) hx hb dX12_laysCouple_192 zci_1 ?_
                refine lv_iadd hx hb dX12_laysCouple_193 ?_
                refine va_put (D := (dC, dI)) (ci := 12) (v := .int ((b0 57) + 1)) (ty := .int) (C := RX12) (T := TX12) (N := 67) hx hb hts zn_X12_laysCouple_X12 tyX12 tyX12_ok nmX12 hown hK hP hD hS 0 rfl rfl 57 (of_decide_eq_true rfl) (hts (.fieldLink RX12 186 "ShortEnoughModel" "fronts" "I") zw_X12_laysCouple_1294) (fun _ h9 => h9) rfl (tyX12_ok 57 (of_decide_eq_true rfl)) rfl rfl (Nat.le_of_ble_eq_true rfl) dX12_laysCouple_194 (fun H locs hP hD hS => ?_)
                have hP : va_P (dC, dI) vwCl [(h0, .inr (12, zO a0 (zI b0 57 ((b0 57) + 1)) c0)), zVi (a0 54) k1 1024 (upd s_4.2.1 s_1.toNatClampNeg p1), zVl (a0 55) k2 1024 (vp_updL s_4.2.2.1 s_1.toNatClampNeg j2), zVi (a0 56) k3 1024 (upd s_4.2.2.2 s_1.toNatClampNeg 1)] H := hP
                have hD := zDW hD hP rfl
                have ho := Option.some.inj hfn
                subst ho
                exact zrv hx hb hr hK hP hD hS hQ trivial hlocks dX12_laysCouple_197
              have hfn := (if_neg c_5).symm.trans hfn
              refine lv_aload_n hx hb dX12_laysCouple_109 rfl (lv_at hl 2 rfl) ?_
              refine va_get (D := (dC, dI)) (ci := 12) (v := .ref (a0 54)) (C := RX12) (T := TX12) (N := 67) hx hb hts zn_X12_laysCouple_X12 hown hK hP 0 rfl rfl 54 (of_decide_eq_true rfl) (hts (.fieldLink RX12 177 "ShortEnoughModel" "frontCost" "[I") zw_X12_laysCouple_1295) (fun _ h9 => h9) rfl dX12_laysCouple_110 ?_
              refine lv_iload hx hb dX12_laysCouple_113 (lv_at hl 0 rfl) ?_
              refine lv_aload_n hx hb dX12_laysCouple_115 rfl (lv_at hl 2 rfl) ?_
              refine va_get (D := (dC, dI)) (ci := 12) (v := .ref (a0 54)) (C := RX12) (T := TX12) (N := 67) hx hb hts zn_X12_laysCouple_X12 hown hK hP 0 rfl rfl 54 (of_decide_eq_true rfl) (hts (.fieldLink RX12 177 "ShortEnoughModel" "frontCost" "[I") zw_X12_laysCouple_1295) (fun _ h9 => h9) rfl dX12_laysCouple_116 ?_
              refine lv_iload hx hb dX12_laysCouple_119 (lv_at hl 0 rfl) ?_
              refine lv_iconst (v := 1) hx hb dX12_laysCouple_121 zci_1 ?_
              refine lv_isub hx hb dX12_laysCouple_122 ?_
              obtain ⟨h_7, hfn⟩ := zg_s hfn
              refine va_iald hx hb hK hP 1 0 rfl rfl h_7 dX12_laysCouple_123 ?_
              obtain ⟨h_8, hfn⟩ := zg_s hfn
              refine va_iast hx hb hK hP hD hS 1 0 rfl rfl h_8 dX12_laysCouple_124 (fun H locs hP hD hS => ?_)
              obtain ⟨g_9, eg_9⟩ : ∃ g : Nat → Int32, g = (upd s_4.2.1 s_4.1.toNatClampNeg (s_4.2.1 (s_4.1 - 1).toNatClampNeg)) := ⟨_, rfl⟩
              have hfn := zn_s hfn eg_9
              have hP : va_P (dC, dI) vwCl [(h0, .inr (12, zO a0 b0 c0)), zVi (a0 54) k1 1024 g_9, zVl (a0 55) k2 1024 s_4.2.2.1, zVi (a0 56) k3 1024 s_4.2.2.2] H := by rw [eg_9]; exact hP
              have hD : va_D A [(h0, .inr (12, zO a0 b0 c0)), zVi (a0 54) k1 1024 g_9, zVl (a0 55) k2 1024 s_4.2.2.1, zVi (a0 56) k3 1024 s_4.2.2.2] := by rw [eg_9]; exact hD
              refine lv_aload_n hx hb dX12_laysCouple_125 rfl (lv_at hl 2 rfl) ?_
              refine va_get (D := (dC, dI)) (ci := 12) (v := .ref (a0 55)) (C := RX12) (T := TX12) (N := 67) hx hb hts zn_X12_laysCouple_X12 hown hK hP 0 rfl rfl 55 (of_decide_eq_true rfl) (hts (.fieldLink RX12 180 "ShortEnoughModel" "frontError" "[J") zw_X12_laysCouple_1296) (fun _ h9 => h9) rfl dX12_laysCouple_126 ?_
              refine lv_iload hx hb dX12_laysCouple_129 (lv_at hl 0 rfl) ?_
              refine lv_aload_n hx hb dX12_laysCouple_131 rfl (lv_at hl 2 rfl) ?_
              refine va_get (D := (dC, dI)) (ci := 12) (v := .ref (a0 55)) (C := RX12) (T := TX12) (N := 67) hx hb hts zn_X12_laysCouple_X12 hown hK hP 0 rfl rfl 55 (of_decide_eq_true rfl) (hts (.fieldLink RX12 180 "ShortEnoughModel" "frontError" "[J") zw_X12_laysCouple_1296) (fun _ h9 => h9) rfl dX12_laysCouple_132 ?_
              refine lv_iload hx hb dX12_laysCouple_135 (lv_at hl 0 rfl) ?_
              refine lv_iconst (v := 1) hx hb dX12_laysCouple_137 zci_1 ?_
              refine lv_isub hx hb dX12_laysCouple_138 ?_
              refine va_lald hx hb hK hP 2 1 rfl rfl h_7 dX12_laysCouple_139 ?_
              refine va_last hx hb hK hP hD hS 2 1 rfl rfl h_8 dX12_laysCouple_140 (fun H locs hP hD hS => ?_)
              obtain ⟨g_10, eg_10⟩ : ∃ g : Nat → Int64, g = (vp_updL s_4.2.2.1 s_4.1.toNatClampNeg (s_4.2.2.1 (s_4.1 - 1).toNatClampNeg)) := ⟨_, rfl⟩
              have hfn := zn_s hfn eg_10
              have hP : va_P (dC, dI) vwCl [(h0, .inr (12, zO a0 b0 c0)), zVi (a0 54) k1 1024 g_9, zVl (a0 55) k2 1024 g_10, zVi (a0 56) k3 1024 s_4.2.2.2] H := by rw [eg_10]; exact hP
              have hD : va_D A [(h0, .inr (12, zO a0 b0 c0)), zVi (a0 54) k1 1024 g_9, zVl (a0 55) k2 1024 g_10, zVi (a0 56) k3 1024 s_4.2.2.2] := by rw [eg_10]; exact hD
              refine lv_aload_n hx hb dX12_laysCouple_141 rfl (lv_at hl 2 rfl) ?_
              refine va_get (D := (dC, dI)) (ci := 12) (v := .ref (a0 56)) (C := RX12) (T := TX12) (N := 67) hx hb hts zn_X12_laysCouple_X12 hown hK hP 0 rfl rfl 56 (of_decide_eq_true rfl) (hts (.fieldLink RX12 183 "ShortEnoughModel" "frontMany" "[I") zw_X12_laysCouple_1297) (fun _ h9 => h9) rfl dX12_laysCouple_142 ?_
              refine lv_iload hx hb dX12_laysCouple_145 (lv_at hl 0 rfl) ?_
              refine lv_aload_n hx hb dX12_laysCouple_147 rfl (lv_at hl 2 rfl) ?_
              refine va_get (D := (dC, dI)) (ci := 12) (v := .ref (a0 56)) (C := RX12) (T := TX12) (N := 67) hx hb hts zn_X12_laysCouple_X12 hown hK hP 0 rfl rfl 56 (of_decide_eq_true rfl) (hts (.fieldLink RX12 183 "ShortEnoughModel" "frontMany" "[I") zw_X12_laysCouple_1297) (fun _ h9 => h9) rfl dX12_laysCouple_148 ?_
              refine lv_iload hx hb dX12_laysCouple_151 (lv_at hl 0 rfl) ?_
              refine lv_iconst (v := 1) hx hb dX12_laysCouple_153 zci_1 ?_
              refine lv_isub hx hb dX12_laysCouple_154 ?_
              refine va_iald hx hb hK hP 3 2 rfl rfl h_7 dX12_laysCouple_155 ?_
              refine va_iast hx hb hK hP hD hS 3 2 rfl rfl h_8 dX12_laysCouple_156 (fun H locs hP hD hS => ?_)
              obtain ⟨g_11, eg_11⟩ : ∃ g : Nat → Int32, g = (upd s_4.2.2.2 s_4.1.toNatClampNeg (s_4.2.2.2 (s_4.1 - 1).toNatClampNeg)) := ⟨_, rfl⟩
              have hfn := zn_s hfn eg_11
              have hP : va_P (dC, dI) vwCl [(h0, .inr (12, zO a0 b0 c0)), zVi (a0 54) k1 1024 g_9, zVl (a0 55) k2 1024 g_10, zVi (a0 56) k3 1024 g_11] H := by rw [eg_11]; exact hP
              have hD : va_D A [(h0, .inr (12, zO a0 b0 c0)), zVi (a0 54) k1 1024 g_9, zVl (a0 55) k2 1024 g_10, zVi (a0 56) k3 1024 g_11] := by rw [eg_11]; exact hD
              refine lv_iinc (v := (s_4.1 + (-1))) (lv' := [(5, .int (s_4.1 + (-1))), (4, .int s_1), (0, .ref h0), (1, .int p1), (2, .long j2)]) hx hb dX12_laysCouple_157 hl (k := 0) rfl rfl (of_decide_eq_true rfl) rfl (fun ls hl => ?_)
              refine lv_goto (tgt := 102) hx hb dX12_laysCouple_160 (of_decide_eq_true rfl) ?_
              exact ih_4 ((s_4.1 + (-1)), g_9, g_10, g_11) H locs ls hfn hP hD hS (lv_sub hl [0, 1, 2, 3, 4] rfl)
          exact lp_4 _ ((b0 57), f1, f2, f3) H locs ls hfn hP hD hS (lv_sub hl [0, 1, 2, 3, 4] rfl)
        refine lv_icmp_ge (tgt := 96) hx hb dX12_laysCouple_58 (of_decide_eq_true rfl) (fun c_12 => ?_) (fun c_12 => ?_)
        · have hfn := (if_pos c_12).symm.trans hfn
          exact jp_3 () H locs ls hfn hP hD hS (lv_sub hl [0, 1, 2, 3] rfl)
        have hfn := (if_neg c_12).symm.trans hfn
        refine lv_aload_n hx hb dX12_laysCouple_61 rfl (lv_at hl 1 rfl) ?_
        refine va_get (D := (dC, dI)) (ci := 12) (v := .ref (a0 54)) (C := RX12) (T := TX12) (N := 67) hx hb hts zn_X12_laysCouple_X12 hown hK hP 0 rfl rfl 54 (of_decide_eq_true rfl) (hts (.fieldLink RX12 177 "ShortEnoughModel" "frontCost" "[I") zw_X12_laysCouple_1295) (fun _ h9 => h9) rfl dX12_laysCouple_62 ?_
        refine lv_iload hx hb dX12_laysCouple_65 (lv_at hl 0 rfl) ?_
        obtain ⟨h_13, hfn⟩ := zg_s hfn
        refine va_iald hx hb hK hP 1 0 rfl rfl h_13 dX12_laysCouple_67 ?_
        refine lv_iload_n hx hb dX12_laysCouple_68 rfl (lv_at hl 2 rfl) ?_
        refine lv_icmp_ne (tgt := 96) hx hb dX12_laysCouple_69 (of_decide_eq_true rfl) (fun c_14 => ?_) (fun c_14 => ?_)
        · have hfn := (if_neg c_14).symm.trans hfn
          exact jp_3 () H locs ls hfn hP hD hS (lv_sub hl [0, 1, 2, 3] rfl)
        have hfn := (if_pos c_14).symm.trans hfn
        refine lv_aload_n hx hb dX12_laysCouple_72 rfl (lv_at hl 1 rfl) ?_
        refine va_get (D := (dC, dI)) (ci := 12) (v := .ref (a0 55)) (C := RX12) (T := TX12) (N := 67) hx hb hts zn_X12_laysCouple_X12 hown hK hP 0 rfl rfl 55 (of_decide_eq_true rfl) (hts (.fieldLink RX12 180 "ShortEnoughModel" "frontError" "[J") zw_X12_laysCouple_1296) (fun _ h9 => h9) rfl dX12_laysCouple_73 ?_
        refine lv_iload hx hb dX12_laysCouple_76 (lv_at hl 0 rfl) ?_
        refine va_lald hx hb hK hP 2 1 rfl rfl h_13 dX12_laysCouple_78 ?_
        refine lv_lload_n hx hb dX12_laysCouple_79 rfl (lv_at hl 3 rfl) ?_
        refine W.lcmp hx hb dX12_laysCouple_80 ?_
        refine lv_if_ne (tgt := 96) hx hb dX12_laysCouple_81 (of_decide_eq_true rfl) (fun c_15 => ?_) (fun c_15 => ?_)
        · have hfn := (if_neg c_15).symm.trans hfn
          exact jp_3 () H locs ls hfn hP hD hS (lv_sub hl [0, 1, 2, 3] rfl)
        have hfn := (if_pos c_15).symm.trans hfn
        refine lv_aload_n hx hb dX12_laysCouple_84 rfl (lv_at hl 1 rfl) ?_
        refine va_get (D := (dC, dI)) (ci := 12) (v := .ref (a0 56)) (C := RX12) (T := TX12) (N := 67) hx hb hts zn_X12_laysCouple_X12 hown hK hP 0 rfl rfl 56 (of_decide_eq_true rfl) (hts (.fieldLink RX12 183 "ShortEnoughModel" "frontMany" "[I") zw_X12_laysCouple_1297) (fun _ h9 => h9) rfl dX12_laysCouple_85 ?_
        refine lv_iload hx hb dX12_laysCouple_88 (lv_at hl 0 rfl) ?_
        refine lv_dup2_11 hx hb dX12_laysCouple_90 rfl rfl ?_
        refine va_iald hx hb hK hP 3 2 rfl rfl h_13 dX12_laysCouple_91 ?_
        refine lv_iconst (v := 1) hx hb dX12_laysCouple_92 zci_1 ?_
        refine lv_iadd hx hb dX12_laysCouple_93 ?_
        refine va_iast hx hb hK hP hD hS 3 2 rfl rfl h_13 dX12_laysCouple_94 (fun H locs hP hD hS => ?_)
        have hP : va_P (dC, dI) vwCl [(h0, .inr (12, zO a0 b0 c0)), zVi (a0 54) k1 1024 f1, zVl (a0 55) k2 1024 f2, zVi (a0 56) k3 1024 (upd f3 s_1.toNatClampNeg ((f3 s_1.toNatClampNeg) + 1))] H := hP
        have hD := zDW hD hP rfl
        have ho := Option.some.inj hfn
        subst ho
        exact zrv hx hb hr hK hP hD hS hQ trivial hlocks dX12_laysCouple_95
      refine lv_icmp_ge (tgt := 52) hx hb dX12_laysCouple_9 (of_decide_eq_true rfl) (fun c_16 => ?_) (fun c_16 => ?_)
      · have hfn := (if_pos c_16).symm.trans hfn
        exact jp_2 () H locs ls hfn hP hD hS (lv_sub hl [0, 1, 2, 3] rfl)
      have hfn := (if_neg c_16).symm.trans hfn
      refine lv_aload_n hx hb dX12_laysCouple_12 rfl (lv_at hl 1 rfl) ?_
      refine va_get (D := (dC, dI)) (ci := 12) (v := .ref (a0 54)) (C := RX12) (T := TX12) (N := 67) hx hb hts zn_X12_laysCouple_X12 hown hK hP 0 rfl rfl 54 (of_decide_eq_true rfl) (hts (.fieldLink RX12 177 "ShortEnoughModel" "frontCost" "[I") zw_X12_laysCouple_1295) (fun _ h9 => h9) rfl dX12_laysCouple_13 ?_
      refine lv_iload hx hb dX12_laysCouple_16 (lv_at hl 0 rfl) ?_
      obtain ⟨h_17, hfn⟩ := zg_s hfn
      refine va_iald hx hb hK hP 1 0 rfl rfl h_17 dX12_laysCouple_18 ?_
      refine lv_iload_n hx hb dX12_laysCouple_19 rfl (lv_at hl 2 rfl) ?_
      refine lv_icmp_lt (tgt := 46) hx hb dX12_laysCouple_20 (of_decide_eq_true rfl) (fun c_18 => ?_) (fun c_18 => ?_)
      · have hfn := (if_pos c_18).symm.trans hfn
        refine lv_iinc (v := (s_1 + 1)) (lv' := [(4, .int (s_1 + 1)), (0, .ref h0), (1, .int p1), (2, .long j2)]) hx hb dX12_laysCouple_46 hl (k := 0) rfl rfl (of_decide_eq_true rfl) rfl (fun ls hl => ?_)
        refine lv_goto (tgt := 3) hx hb dX12_laysCouple_49 (of_decide_eq_true rfl) ?_
        exact ih_1 (s_1 + 1) H locs ls hfn hP hD hS (lv_sub hl [0, 1, 2, 3] rfl)
      have hfn := (if_neg c_18).symm.trans hfn
      refine lv_aload_n hx hb dX12_laysCouple_23 rfl (lv_at hl 1 rfl) ?_
      refine va_get (D := (dC, dI)) (ci := 12) (v := .ref (a0 54)) (C := RX12) (T := TX12) (N := 67) hx hb hts zn_X12_laysCouple_X12 hown hK hP 0 rfl rfl 54 (of_decide_eq_true rfl) (hts (.fieldLink RX12 177 "ShortEnoughModel" "frontCost" "[I") zw_X12_laysCouple_1295) (fun _ h9 => h9) rfl dX12_laysCouple_24 ?_
      refine lv_iload hx hb dX12_laysCouple_27 (lv_at hl 0 rfl) ?_
      refine va_iald hx hb hK hP 1 0 rfl rfl h_17 dX12_laysCouple_29 ?_
      refine lv_iload_n hx hb dX12_laysCouple_30 rfl (lv_at hl 2 rfl) ?_
      refine lv_icmp_ne (tgt := 52) hx hb dX12_laysCouple_31 (of_decide_eq_true rfl) (fun c_19 => ?_) (fun c_19 => ?_)
      · have hfn := (if_neg c_19).symm.trans hfn
        exact jp_2 () H locs ls hfn hP hD hS (lv_sub hl [0, 1, 2, 3] rfl)
      have hfn := (if_pos c_19).symm.trans hfn
      refine lv_aload_n hx hb dX12_laysCouple_34 rfl (lv_at hl 1 rfl) ?_
      refine va_get (D := (dC, dI)) (ci := 12) (v := .ref (a0 55)) (C := RX12) (T := TX12) (N := 67) hx hb hts zn_X12_laysCouple_X12 hown hK hP 0 rfl rfl 55 (of_decide_eq_true rfl) (hts (.fieldLink RX12 180 "ShortEnoughModel" "frontError" "[J") zw_X12_laysCouple_1296) (fun _ h9 => h9) rfl dX12_laysCouple_35 ?_
      refine lv_iload hx hb dX12_laysCouple_38 (lv_at hl 0 rfl) ?_
      refine va_lald hx hb hK hP 2 1 rfl rfl h_17 dX12_laysCouple_40 ?_
      refine lv_lload_n hx hb dX12_laysCouple_41 rfl (lv_at hl 3 rfl) ?_
      refine W.lcmp hx hb dX12_laysCouple_42 ?_
      refine lv_if_ge (tgt := 52) hx hb dX12_laysCouple_43 (of_decide_eq_true rfl) (fun c_20 => ?_) (fun c_20 => ?_)
      · have hfn := (if_pos c_20).symm.trans hfn
        exact jp_2 () H locs ls hfn hP hD hS (lv_sub hl [0, 1, 2, 3] rfl)
      have hfn := (if_neg c_20).symm.trans hfn
      refine lv_iinc (v := (s_1 + 1)) (lv' := [(4, .int (s_1 + 1)), (0, .ref h0), (1, .int p1), (2, .long j2)]) hx hb dX12_laysCouple_46 hl (k := 0) rfl rfl (of_decide_eq_true rfl) rfl (fun ls hl => ?_)
      refine lv_goto (tgt := 3) hx hb dX12_laysCouple_49 (of_decide_eq_true rfl) ?_
      exact ih_1 (s_1 + 1) H locs ls hfn hP hD hS (lv_sub hl [0, 1, 2, 3] rfl)
  exact lp_1 _ 0 s.heap [] ls hfn hP hD hS (lv_sub hl [0, 1, 2, 3] rfl)
theorem zn_X12_laysFront_X12 : ∀ w ∈ wsX120, w ∈ wsX12_laysFront := fun _ h => List.mem_cons_of_mem _ (List.mem_append_right _ h)
theorem zw_X12_laysFront_1299 : Cond.fieldLink RX12 186 "ShortEnoughModel" "fronts" "I" ∈ wsX12_laysFront := List.mem_of_getElem? (i := 1) (by decide +kernel)
theorem zw_X12_laysFront_1300 : Cond.fieldLink RX12 135 "ShortEnoughModel" "error" "[J" ∈ wsX12_laysFront := List.mem_of_getElem? (i := 2) (by decide +kernel)
theorem zw_X12_laysFront_1301 : Cond.fieldLink RX12 177 "ShortEnoughModel" "frontCost" "[I" ∈ wsX12_laysFront := List.mem_of_getElem? (i := 4) (by decide +kernel)
theorem zw_X12_laysFront_1302 : Cond.fieldLink RX12 180 "ShortEnoughModel" "frontError" "[J" ∈ wsX12_laysFront := List.mem_of_getElem? (i := 3) (by decide +kernel)
theorem zw_X12_laysFront_1303 : Cond.fieldLink RX12 183 "ShortEnoughModel" "frontMany" "[I" ∈ wsX12_laysFront := List.mem_of_getElem? (i := 5) (by decide +kernel)
set_option maxHeartbeats 4000000 in
set_option maxRecDepth 100000 in
theorem zf_X12_laysFront (l : Launch) (dC : Nat → ClassId) (dI : Nat → Nat → Nat) (h0 : Nat) (p1 : Int32) (a0 : Nat → Nat) (b0 : Nat → Int32) (c0 : Nat → Int64) (k1 : Nat) (f1 : Nat → Int32) (k2 : Nat) (f2 : Nat → Int32) (k3 : Nat) (f3 : Nat → Int32) (k4 : Nat) (f4 : Nat → Int32) (k5 : Nat) (f5 : Nat → Int32) (k6 : Nat) (f6 : Nat → Int32) (k7 : Nat) (f7 : Nat → Int32) (k8 : Nat) (f8 : Nat → Int32) (k9 : Nat) (f9 : Nat → Int32) (k10 : Nat) (f10 : Nat → Int64) (k11 : Nat) (f11 : Nat → Int64) (k12 : Nat) (f12 : Nat → Int64) (k13 : Nat) (f13 : Nat → Int64) (k14 : Nat) (f14 : Nat → Int32) (k15 : Nat) (f15 : Nat → Int64) (k16 : Nat) (f16 : Nat → Int32) (k17 : Nat) (f17 : Nat → Int32) (k18 : Nat) (f18 : Nat → Int32) (k19 : Nat) (f19 : Nat → Int32) (k20 : Nat) (f20 : Nat → Int32) (k21 : Nat) (f21 : Nat → Int64) (k22 : Nat) (f22 : Nat → Int32) (o : Int32 × Int32 × Int32 × (Nat → Int32) × (Nat → Int64) × (Nat → Int64) × (Nat → Int64) × (Nat → Int32) × (Nat → Int64) × (Nat → Int32)) (hfn : fn_X12_laysFront p1 (b0 30) (b0 33) (c0 34) (b0 41) (b0 42) f1 f2 f3 f4 f5 f6 f7 f8 f9 f10 f11 f12 f13 f14 f15 f16 f17 f18 f19 f20 f21 f22 = some o) (sz : Nat) : zMv l yX12_laysFront wsX12_laysFront ({ frames := 5, cells := 0, slots := 0, locals := 134 }) (dC, dI) vwCl [.ref h0, .int p1] [(h0, .inr (12, zO a0 b0 c0)), zVi (a0 12) k1 2 f1, zVi (a0 17) k2 2 f2, zVi (a0 37) k3 14 f3, zVi (a0 39) k4 14 f4, zVi (a0 29) k5 14 f5, zVi (a0 27) k6 28 f6, zVi (a0 19) k7 28 f7, zVi (a0 20) k8 28 f8, zVi (a0 21) k9 28 f9, zVl (a0 31) k10 14 f10, zVl (a0 22) k11 28 f11, zVl (a0 23) k12 28 f12, zVl (a0 32) k13 14 f13, zVi (a0 14) k14 8 f14, zVl (a0 40) k15 14 f15, zVi (a0 15) k16 8 f16, zVi (a0 26) k17 28 f17, zVi (a0 24) k18 2 f18, zVi (a0 16) k19 8 f19, zVi (a0 54) k20 1024 f20, zVl (a0 55) k21 1024 f21, zVi (a0 56) k22 1024 f22] [(k1, .int), (k2, .int), (k3, .int), (k4, .int), (k5, .int), (k6, .int), (k7, .int), (k8, .int), (k9, .int), (k10, .long), (k11, .long), (k12, .long), (k13, .long), (k14, .int), (k15, .long), (k16, .int), (k17, .int), (k18, .int), (k19, .int), (k20, .int), (k21, .long), (k22, .int)] (fun _ => True) [(h0, .inr (12, zO a0 (zI (zI (zI b0 41 o.1) 42 o.2.1) 57 o.2.2.1) c0)), zVi (a0 12) k1 2 f1, zVi (a0 17) k2 2 f2, zVi (a0 37) k3 14 f3, zVi (a0 39) k4 14 o.2.2.2.1, zVi (a0 29) k5 14 f5, zVi (a0 27) k6 28 f6, zVi (a0 19) k7 28 f7, zVi (a0 20) k8 28 f8, zVi (a0 21) k9 28 f9, zVl (a0 31) k10 14 o.2.2.2.2.1, zVl (a0 22) k11 28 f11, zVl (a0 23) k12 28 f12, zVl (a0 32) k13 14 o.2.2.2.2.2.1, zVi (a0 14) k14 8 f14, zVl (a0 40) k15 14 o.2.2.2.2.2.2.1, zVi (a0 15) k16 8 f16, zVi (a0 26) k17 28 f17, zVi (a0 24) k18 2 f18, zVi (a0 16) k19 8 f19, zVi (a0 54) k20 1024 o.2.2.2.2.2.2.2.1, zVl (a0 55) k21 1024 o.2.2.2.2.2.2.2.2.1, zVi (a0 56) k22 1024 o.2.2.2.2.2.2.2.2.2] [(k1, .int), (k2, .int), (k3, .int), (k4, .int), (k5, .int), (k6, .int), (k7, .int), (k8, .int), (k9, .int), (k10, .long), (k11, .long), (k12, .long), (k13, .long), (k14, .int), (k15, .long), (k16, .int), (k17, .int), (k18, .int), (k19, .int), (k20, .int), (k21, .long), (k22, .int)] sz := by
  refine zgov (cc := cX12_laysFront) (maxL := 5) (ret := none) (C0 := RX12) (lv0 := [(0, .ref h0), (1, .int p1)]) zpl_X12 rfl rfl rfl (Nat.le_of_ble_eq_true rfl) ?_
  intro p e s m below meth c A ls Q hx hb hr hts hown hlocks hml hP hK hD hA hS hl hQ
  unfold fn_X12_laysFront at hfn
  refine lv_aload_n hx hb dX12_laysFront_0 rfl (lv_at hl 0 rfl) ?_
  refine lv_iconst (v := 0) hx hb dX12_laysFront_1 zci_0 ?_
  refine va_put (D := (dC, dI)) (ci := 12) (v := .int 0) (ty := .int) (C := RX12) (T := TX12) (N := 67) hx hb hts zn_X12_laysFront_X12 tyX12 tyX12_ok nmX12 hown hK hP hD hS 0 rfl rfl 57 (of_decide_eq_true rfl) (hts (.fieldLink RX12 186 "ShortEnoughModel" "fronts" "I") zw_X12_laysFront_1299) (fun _ h9 => h9) rfl (tyX12_ok 57 (of_decide_eq_true rfl)) rfl rfl (Nat.le_of_ble_eq_true rfl) dX12_laysFront_2 (fun H locs hP hD hS => ?_)
  have hP : va_P (dC, dI) vwCl [(h0, .inr (12, zO a0 (zI b0 57 0) c0)), zVi (a0 12) k1 2 f1, zVi (a0 17) k2 2 f2, zVi (a0 37) k3 14 f3, zVi (a0 39) k4 14 f4, zVi (a0 29) k5 14 f5, zVi (a0 27) k6 28 f6, zVi (a0 19) k7 28 f7, zVi (a0 20) k8 28 f8, zVi (a0 21) k9 28 f9, zVl (a0 31) k10 14 f10, zVl (a0 22) k11 28 f11, zVl (a0 23) k12 28 f12, zVl (a0 32) k13 14 f13, zVi (a0 14) k14 8 f14, zVl (a0 40) k15 14 f15, zVi (a0 15) k16 8 f16, zVi (a0 26) k17 28 f17, zVi (a0 24) k18 2 f18, zVi (a0 16) k19 8 f19, zVi (a0 54) k20 1024 f20, zVl (a0 55) k21 1024 f21, zVi (a0 56) k22 1024 f22] H := hP
  have hD := zDW hD hP rfl
  refine lv_aload_n hx hb dX12_laysFront_5 rfl (lv_at hl 0 rfl) ?_
  obtain ⟨o_1, hqo_1, hfn⟩ := zb_s hfn
  refine zcVi (ci := 12) (rest := []) (pc' := 9) (ws' := [(h0, .inr (12, zO a0 (zI b0 57 0) c0)), zVi (a0 12) k1 2 f1, zVi (a0 17) k2 2 f2, zVi (a0 37) k3 14 f3, zVi (a0 39) k4 14 f4, zVi (a0 29) k5 14 f5, zVi (a0 27) k6 28 f6, zVi (a0 19) k7 28 f7, zVi (a0 20) k8 28 f8, zVi (a0 21) k9 28 f9, zVl (a0 31) k10 14 f10, zVl (a0 22) k11 28 f11, zVl (a0 23) k12 28 f12, zVl (a0 32) k13 14 f13, zVi (a0 14) k14 8 f14, zVl (a0 40) k15 14 f15, zVi (a0 15) k16 8 f16, zVi (a0 26) k17 28 f17, zVi (a0 24) k18 2 f18, zVi (a0 16) k19 8 f19, zVi (a0 54) k20 1024 f20, zVl (a0 55) k21 1024 f21, zVi (a0 56) k22 1024 f22]) hP hK hD hS hA ⟨hx, hb, hml, hown, hts⟩ (zf_X12_allChoices l dC dI h0 a0 (zI b0 57 0) c0 k1 f1 o_1 hqo_1 H.size) (cwV 0 hts gX12_laysFront_X12_allChoices rfl rfl rfl zhd_X12_allChoices ⟨Nat.le_of_ble_eq_true rfl, Nat.le_of_ble_eq_true rfl⟩) [0, 1] rfl (of_decide_eq_true rfl) [0] rfl rfl rfl rfl hl.1 rfl (Nat.le_of_ble_eq_true rfl) dX12_laysFront_6 ⟨Nat.le_of_ble_eq_true rfl, Nat.le_of_ble_eq_true rfl⟩ [some 0, some 1] (of_decide_eq_true rfl) (of_decide_eq_true rfl) rfl rfl rfl (fun H locs hP hD hS => ?_)
  refine lv_istore_n (lv' := [(2, .int o_1), (0, .ref h0), (1, .int p1)]) hx hb dX12_laysFront_9 rfl hl (of_decide_eq_true rfl) rfl (fun ls hl => ?_)
  refine lv_iconst (v := 0) hx hb dX12_laysFront_10 zci_0 ?_
  refine lv_istore_n (lv' := [(3, .int 0), (2, .int o_1), (0, .ref h0), (1, .int p1)]) hx hb dX12_laysFront_11 rfl hl (of_decide_eq_true rfl) rfl (fun ls hl => ?_)
  obtain ⟨bd_5, ebd_5, hfn⟩ := zl_g hfn
  have lp_5 : ∀ (n : Nat) (s_5 : Int32 × Int32 × Int32 × Int32 × (Nat → Int64) × (Nat → Int64) × (Nat → Int32) × (Nat → Int64) × (Nat → Int32) × (Nat → Int64) × (Nat → Int32)) (H : Heap) (locs : List Loc) (ls : Array Slot), zl bd_5 n s_5 = some o → va_P (dC, dI) vwCl [(h0, .inr (12, zO a0 (zI (zI (zI b0 41 s_5.2.1) 42 s_5.2.2.1) 57 s_5.2.2.2.1) c0)), zVi (a0 12) k1 2 f1, zVi (a0 17) k2 2 f2, zVi (a0 37) k3 14 f3, zVi (a0 39) k4 14 s_5.2.2.2.2.2.2.1, zVi (a0 29) k5 14 f5, zVi (a0 27) k6 28 f6, zVi (a0 19) k7 28 f7, zVi (a0 20) k8 28 f8, zVi (a0 21) k9 28 f9, zVl (a0 31) k10 14 s_5.2.2.2.2.1, zVl (a0 22) k11 28 f11, zVl (a0 23) k12 28 f12, zVl (a0 32) k13 14 s_5.2.2.2.2.2.1, zVi (a0 14) k14 8 f14, zVl (a0 40) k15 14 s_5.2.2.2.2.2.2.2.1, zVi (a0 15) k16 8 f16, zVi (a0 26) k17 28 f17, zVi (a0 24) k18 2 f18, zVi (a0 16) k19 8 f19, zVi (a0 54) k20 1024 s_5.2.2.2.2.2.2.2.2.1, zVl (a0 55) k21 1024 s_5.2.2.2.2.2.2.2.2.2.1, zVi (a0 56) k22 1024 s_5.2.2.2.2.2.2.2.2.2.2] H → va_D A [(h0, .inr (12, zO a0 (zI (zI (zI b0 41 s_5.2.1) 42 s_5.2.2.1) 57 s_5.2.2.2.1) c0)), zVi (a0 12) k1 2 f1, zVi (a0 17) k2 2 f2, zVi (a0 37) k3 14 f3, zVi (a0 39) k4 14 s_5.2.2.2.2.2.2.1, zVi (a0 29) k5 14 f5, zVi (a0 27) k6 28 f6, zVi (a0 19) k7 28 f7, zVi (a0 20) k8 28 f8, zVi (a0 21) k9 28 f9, zVl (a0 31) k10 14 s_5.2.2.2.2.1, zVl (a0 22) k11 28 f11, zVl (a0 23) k12 28 f12, zVl (a0 32) k13 14 s_5.2.2.2.2.2.1, zVi (a0 14) k14 8 f14, zVl (a0 40) k15 14 s_5.2.2.2.2.2.2.2.1, zVi (a0 15) k16 8 f16, zVi (a0 26) k17 28 f17, zVi (a0 24) k18 2 f18, zVi (a0 16) k19 8 f19, zVi (a0 54) k20 1024 s_5.2.2.2.2.2.2.2.2.1, zVl (a0 55) k21 1024 s_5.2.2.2.2.2.2.2.2.2.1, zVi (a0 56) k22 1024 s_5.2.2.2.2.2.2.2.2.2.2] → va_S A s.heap H locs → lv_has ls 5 [(3, .int s_5.1), (2, .int o_1), (0, .ref h0), (1, .int p1)] → W p l e (headSpec wsX12_laysFront ({ frames := 5, cells := 0, slots := 0, locals := 134 })).room s m ([.ref h0, .int p1] : List Value).toArray below meth c H locs 0 0 Q (F0 m 12 ls []) := by
    intro n
    induction n with
    | zero => exact fun _ _ _ _ hfn => (zl_0 hfn).elim
    | succ n ih_5 =>
      intro s_5 H locs ls hfn hP hD hS hl
      have hfn := zl_s ebd_5 hfn
      refine lv_iload_n hx hb dX12_laysFront_12 rfl (lv_at hl 0 rfl) ?_
      refine lv_iload_n hx hb dX12_laysFront_13 rfl (lv_at hl 1 rfl) ?_
      refine lv_icmp_ge (tgt := 49) hx hb dX12_laysFront_14 (of_decide_eq_true rfl) (fun c_6 => ?_) (fun c_6 => ?_)
      · have hfn := (if_pos c_6).symm.trans hfn
        refine lv_iconst (v := 0) hx hb dX12_laysFront_49 zci_0 ?_
        refine lv_istore_n (lv' := [(3, .int 0), (2, .int o_1), (0, .ref h0), (1, .int p1)]) hx hb dX12_laysFront_50 rfl hl (of_decide_eq_true rfl) rfl (fun ls hl => ?_)
        refine lv_iconst (v := 0) hx hb dX12_laysFront_51 zci_0 ?_
        refine lv_istore (lv' := [(4, .int 0), (3, .int 0), (2, .int o_1), (0, .ref h0), (1, .int p1)]) hx hb dX12_laysFront_52 hl (of_decide_eq_true rfl) rfl (fun ls hl => ?_)
        obtain ⟨bd_7, ebd_7, hfn⟩ := zl_g hfn
        have lp_7 : ∀ (n : Nat) (s_7 : Int32 × Int32 × (Nat → Int32) × (Nat → Int64) × (Nat → Int32)) (H : Heap) (locs : List Loc) (ls : Array Slot), zl bd_7 n s_7 = some o → va_P (dC, dI) vwCl [(h0, .inr (12, zO a0 (zI (zI (zI b0 41 s_5.2.1) 42 s_5.2.2.1) 57 s_5.2.2.2.1) c0)), zVi (a0 12) k1 2 f1, zVi (a0 17) k2 2 f2, zVi (a0 37) k3 14 f3, zVi (a0 39) k4 14 s_5.2.2.2.2.2.2.1, zVi (a0 29) k5 14 f5, zVi (a0 27) k6 28 f6, zVi (a0 19) k7 28 f7, zVi (a0 20) k8 28 f8, zVi (a0 21) k9 28 f9, zVl (a0 31) k10 14 s_5.2.2.2.2.1, zVl (a0 22) k11 28 f11, zVl (a0 23) k12 28 f12, zVl (a0 32) k13 14 s_5.2.2.2.2.2.1, zVi (a0 14) k14 8 f14, zVl (a0 40) k15 14 s_5.2.2.2.2.2.2.2.1, zVi (a0 15) k16 8 f16, zVi (a0 26) k17 28 f17, zVi (a0 24) k18 2 f18, zVi (a0 16) k19 8 f19, zVi (a0 54) k20 1024 s_7.2.2.1, zVl (a0 55) k21 1024 s_7.2.2.2.1, zVi (a0 56) k22 1024 s_7.2.2.2.2] H → va_D A [(h0, .inr (12, zO a0 (zI (zI (zI b0 41 s_5.2.1) 42 s_5.2.2.1) 57 s_5.2.2.2.1) c0)), zVi (a0 12) k1 2 f1, zVi (a0 17) k2 2 f2, zVi (a0 37) k3 14 f3, zVi (a0 39) k4 14 s_5.2.2.2.2.2.2.1, zVi (a0 29) k5 14 f5, zVi (a0 27) k6 28 f6, zVi (a0 19) k7 28 f7, zVi (a0 20) k8 28 f8, zVi (a0 21) k9 28 f9, zVl (a0 31) k10 14 s_5.2.2.2.2.1, zVl (a0 22) k11 28 f11, zVl (a0 23) k12 28 f12, zVl (a0 32) k13 14 s_5.2.2.2.2.2.1, zVi (a0 14) k14 8 f14, zVl (a0 40) k15 14 s_5.2.2.2.2.2.2.2.1, zVi (a0 15) k16 8 f16, zVi (a0 26) k17 28 f17, zVi (a0 24) k18 2 f18, zVi (a0 16) k19 8 f19, zVi (a0 54) k20 1024 s_7.2.2.1, zVl (a0 55) k21 1024 s_7.2.2.2.1, zVi (a0 56) k22 1024 s_7.2.2.2.2] → va_S A s.heap H locs → lv_has ls 5 [(4, .int s_7.2.1), (3, .int s_7.1), (0, .ref h0)] → W p l e (headSpec wsX12_laysFront ({ frames := 5, cells := 0, slots := 0, locals := 134 })).room s m ([.ref h0, .int p1] : List Value).toArray below meth c H locs 0 0 Q (F0 m 54 ls []) := by
          intro n
          induction n with
          | zero => exact fun _ _ _ _ hfn => (zl_0 hfn).elim
          | succ n ih_7 =>
            intro s_7 H locs ls hfn hP hD hS hl
            have hfn := zl_s ebd_7 hfn
            refine lv_iload hx hb dX12_laysFront_54 (lv_at hl 0 rfl) ?_
            refine lv_aload_n hx hb dX12_laysFront_56 rfl (lv_at hl 2 rfl) ?_
            refine va_get (D := (dC, dI)) (ci := 12) (v := .int s_5.2.2.2.1) (C := RX12) (T := TX12) (N := 67) hx hb hts zn_X12_laysFront_X12 hown hK hP 0 rfl rfl 57 (of_decide_eq_true rfl) (hts (.fieldLink RX12 186 "ShortEnoughModel" "fronts" "I") zw_X12_laysFront_1299) (fun _ h9 => h9) rfl dX12_laysFront_57 ?_
            refine lv_icmp_ge (tgt := 137) hx hb dX12_laysFront_60 (of_decide_eq_true rfl) (fun c_8 => ?_) (fun c_8 => ?_)
            · have hfn := (if_pos c_8).symm.trans hfn
              refine lv_aload_n hx hb dX12_laysFront_137 rfl (lv_at hl 2 rfl) ?_
              refine lv_iload_n hx hb dX12_laysFront_138 rfl (lv_at hl 1 rfl) ?_
              refine va_put (D := (dC, dI)) (ci := 12) (v := .int s_7.1) (ty := .int) (C := RX12) (T := TX12) (N := 67) hx hb hts zn_X12_laysFront_X12 tyX12 tyX12_ok nmX12 hown hK hP hD hS 0 rfl rfl 57 (of_decide_eq_true rfl) (hts (.fieldLink RX12 186 "ShortEnoughModel" "fronts" "I") zw_X12_laysFront_1299) (fun _ h9 => h9) rfl (tyX12_ok 57 (of_decide_eq_true rfl)) rfl rfl (Nat.le_of_ble_eq_true rfl) dX12_laysFront_139 (fun H locs hP hD hS => ?_)
              have hP : va_P (dC, dI) vwCl [(h0, .inr (12, zO a0 (zI (zI (zI b0 41 s_5.2.1) 42 s_5.2.2.1) 57 s_7.1) c0)), zVi (a0 12) k1 2 f1, zVi (a0 17) k2 2 f2, zVi (a0 37) k3 14 f3, zVi (a0 39) k4 14 s_5.2.2.2.2.2.2.1, zVi (a0 29) k5 14 f5, zVi (a0 27) k6 28 f6, zVi (a0 19) k7 28 f7, zVi (a0 20) k8 28 f8, zVi (a0 21) k9 28 f9, zVl (a0 31) k10 14 s_5.2.2.2.2.1, zVl (a0 22) k11 28 f11, zVl (a0 23) k12 28 f12, zVl (a0 32) k13 14 s_5.2.2.2.2.2.1, zVi (a0 14) k14 8 f14, zVl (a0 40) k15 14 s_5.2.2.2.2.2.2.2.1, zVi (a0 15) k16 8 f16, zVi (a0 26) k17 28 f17, zVi (a0 24) k18 2 f18, zVi (a0 16) k19 8 f19, zVi (a0 54) k20 1024 s_7.2.2.1, zVl (a0 55) k21 1024 s_7.2.2.2.1, zVi (a0 56) k22 1024 s_7.2.2.2.2] H := hP
              have hD := zDW hD hP rfl
              have ho := Option.some.inj hfn
              subst ho
              exact zrv hx hb hr hK hP hD hS hQ trivial hlocks dX12_laysFront_142
            have hfn := (if_neg c_8).symm.trans hfn
            refine lv_iload_n hx hb dX12_laysFront_63 rfl (lv_at hl 1 rfl) ?_
            obtain ⟨j_9, ej_9, hfn⟩ := zj_g hfn
            have jp_9 : ∀ (s_9 : Unit) (H : Heap) (locs : List Loc) (ls : Array Slot), j_9 s_9 = some o → va_P (dC, dI) vwCl [(h0, .inr (12, zO a0 (zI (zI (zI b0 41 s_5.2.1) 42 s_5.2.2.1) 57 s_5.2.2.2.1) c0)), zVi (a0 12) k1 2 f1, zVi (a0 17) k2 2 f2, zVi (a0 37) k3 14 f3, zVi (a0 39) k4 14 s_5.2.2.2.2.2.2.1, zVi (a0 29) k5 14 f5, zVi (a0 27) k6 28 f6, zVi (a0 19) k7 28 f7, zVi (a0 20) k8 28 f8, zVi (a0 21) k9 28 f9, zVl (a0 31) k10 14 s_5.2.2.2.2.1, zVl (a0 22) k11 28 f11, zVl (a0 23) k12 28 f12, zVl (a0 32) k13 14 s_5.2.2.2.2.2.1, zVi (a0 14) k14 8 f14, zVl (a0 40) k15 14 s_5.2.2.2.2.2.2.2.1, zVi (a0 15) k16 8 f16, zVi (a0 26) k17 28 f17, zVi (a0 24) k18 2 f18, zVi (a0 16) k19 8 f19, zVi (a0 54) k20 1024 s_7.2.2.1, zVl (a0 55) k21 1024 s_7.2.2.2.1, zVi (a0 56) k22 1024 s_7.2.2.2.2] H → va_D A [(h0, .inr (12, zO a0 (zI (zI (zI b0 41 s_5.2.1) 42 s_5.2.2.1) 57 s_5.2.2.2.1) c0)), zVi (a0 12) k1 2 f1, zVi (a0 17) k2 2 f2, zVi (a0 37) k3 14 f3, zVi (a0 39) k4 14 s_5.2.2.2.2.2.2.1, zVi (a0 29) k5 14 f5, zVi (a0 27) k6 28 f6, zVi (a0 19) k7 28 f7, zVi (a0 20) k8 28 f8, zVi (a0 21) k9 28 f9, zVl (a0 31) k10 14 s_5.2.2.2.2.1, zVl (a0 22) k11 28 f11, zVl (a0 23) k12 28 f12, zVl (a0 32) k13 14 s_5.2.2.2.2.2.1, zVi (a0 14) k14 8 f14, zVl (a0 40) k15 14 s_5.2.2.2.2.2.2.2.1, zVi (a0 15) k16 8 f16, zVi (a0 26) k17 28 f17, zVi (a0 24) k18 2 f18, zVi (a0 16) k19 8 f19, zVi (a0 54) k20 1024 s_7.2.2.1, zVl (a0 55) k21 1024 s_7.2.2.2.1, zVi (a0 56) k22 1024 s_7.2.2.2.2] → va_S A s.heap H locs → lv_has ls 5 [(4, .int s_7.2.1), (3, .int s_7.1), (0, .ref h0)] → W p l e (headSpec wsX12_laysFront ({ frames := 5, cells := 0, slots := 0, locals := 134 })).room s m ([.ref h0, .int p1] : List Value).toArray below meth c H locs 0 0 Q (F0 m 89 ls []) := by
              intro s_9 H locs ls hfn hP hD hS hl
              have hfn := zj_s ej_9 hfn
              refine lv_aload_n hx hb dX12_laysFront_89 rfl (lv_at hl 2 rfl) ?_
              refine va_get (D := (dC, dI)) (ci := 12) (v := .ref (a0 54)) (C := RX12) (T := TX12) (N := 67) hx hb hts zn_X12_laysFront_X12 hown hK hP 0 rfl rfl 54 (of_decide_eq_true rfl) (hts (.fieldLink RX12 177 "ShortEnoughModel" "frontCost" "[I") zw_X12_laysFront_1301) (fun _ h9 => h9) rfl dX12_laysFront_90 ?_
              refine lv_iload_n hx hb dX12_laysFront_93 rfl (lv_at hl 1 rfl) ?_
              refine lv_aload_n hx hb dX12_laysFront_94 rfl (lv_at hl 2 rfl) ?_
              refine va_get (D := (dC, dI)) (ci := 12) (v := .ref (a0 54)) (C := RX12) (T := TX12) (N := 67) hx hb hts zn_X12_laysFront_X12 hown hK hP 0 rfl rfl 54 (of_decide_eq_true rfl) (hts (.fieldLink RX12 177 "ShortEnoughModel" "frontCost" "[I") zw_X12_laysFront_1301) (fun _ h9 => h9) rfl dX12_laysFront_95 ?_
              refine lv_iload hx hb dX12_laysFront_98 (lv_at hl 0 rfl) ?_
              obtain ⟨h_10, hfn⟩ := zg_s hfn
              refine va_iald hx hb hK hP 20 19 rfl rfl h_10 dX12_laysFront_100 ?_
              obtain ⟨h_11, hfn⟩ := zg_s hfn
              refine va_iast hx hb hK hP hD hS 20 19 rfl rfl h_11 dX12_laysFront_101 (fun H locs hP hD hS => ?_)
              obtain ⟨g_12, eg_12⟩ : ∃ g : Nat → Int32, g = (upd s_7.2.2.1 s_7.1.toNatClampNeg (s_7.2.2.1 s_7.2.1.toNatClampNeg)) := ⟨_, rfl⟩
              have hfn := zn_s hfn eg_12
              have hP : va_P (dC, dI) vwCl [(h0, .inr (12, zO a0 (zI (zI (zI b0 41 s_5.2.1) 42 s_5.2.2.1) 57 s_5.2.2.2.1) c0)), zVi (a0 12) k1 2 f1, zVi (a0 17) k2 2 f2, zVi (a0 37) k3 14 f3, zVi (a0 39) k4 14 s_5.2.2.2.2.2.2.1, zVi (a0 29) k5 14 f5, zVi (a0 27) k6 28 f6, zVi (a0 19) k7 28 f7, zVi (a0 20) k8 28 f8, zVi (a0 21) k9 28 f9, zVl (a0 31) k10 14 s_5.2.2.2.2.1, zVl (a0 22) k11 28 f11, zVl (a0 23) k12 28 f12, zVl (a0 32) k13 14 s_5.2.2.2.2.2.1, zVi (a0 14) k14 8 f14, zVl (a0 40) k15 14 s_5.2.2.2.2.2.2.2.1, zVi (a0 15) k16 8 f16, zVi (a0 26) k17 28 f17, zVi (a0 24) k18 2 f18, zVi (a0 16) k19 8 f19, zVi (a0 54) k20 1024 g_12, zVl (a0 55) k21 1024 s_7.2.2.2.1, zVi (a0 56) k22 1024 s_7.2.2.2.2] H := by rw [eg_12]; exact hP
              have hD : va_D A [(h0, .inr (12, zO a0 (zI (zI (zI b0 41 s_5.2.1) 42 s_5.2.2.1) 57 s_5.2.2.2.1) c0)), zVi (a0 12) k1 2 f1, zVi (a0 17) k2 2 f2, zVi (a0 37) k3 14 f3, zVi (a0 39) k4 14 s_5.2.2.2.2.2.2.1, zVi (a0 29) k5 14 f5, zVi (a0 27) k6 28 f6, zVi (a0 19) k7 28 f7, zVi (a0 20) k8 28 f8, zVi (a0 21) k9 28 f9, zVl (a0 31) k10 14 s_5.2.2.2.2.1, zVl (a0 22) k11 28 f11, zVl (a0 23) k12 28 f12, zVl (a0 32) k13 14 s_5.2.2.2.2.2.1, zVi (a0 14) k14 8 f14, zVl (a0 40) k15 14 s_5.2.2.2.2.2.2.2.1, zVi (a0 15) k16 8 f16, zVi (a0 26) k17 28 f17, zVi (a0 24) k18 2 f18, zVi (a0 16) k19 8 f19, zVi (a0 54) k20 1024 g_12, zVl (a0 55) k21 1024 s_7.2.2.2.1, zVi (a0 56) k22 1024 s_7.2.2.2.2] := by rw [eg_12]; exact hD
              refine lv_aload_n hx hb dX12_laysFront_102 rfl (lv_at hl 2 rfl) ?_
              refine va_get (D := (dC, dI)) (ci := 12) (v := .ref (a0 55)) (C := RX12) (T := TX12) (N := 67) hx hb hts zn_X12_laysFront_X12 hown hK hP 0 rfl rfl 55 (of_decide_eq_true rfl) (hts (.fieldLink RX12 180 "ShortEnoughModel" "frontError" "[J") zw_X12_laysFront_1302) (fun _ h9 => h9) rfl dX12_laysFront_103 ?_
              refine lv_iload_n hx hb dX12_laysFront_106 rfl (lv_at hl 1 rfl) ?_
              refine lv_aload_n hx hb dX12_laysFront_107 rfl (lv_at hl 2 rfl) ?_
              refine va_get (D := (dC, dI)) (ci := 12) (v := .ref (a0 55)) (C := RX12) (T := TX12) (N := 67) hx hb hts zn_X12_laysFront_X12 hown hK hP 0 rfl rfl 55 (of_decide_eq_true rfl) (hts (.fieldLink RX12 180 "ShortEnoughModel" "frontError" "[J") zw_X12_laysFront_1302) (fun _ h9 => h9) rfl dX12_laysFront_108 ?_
              refine lv_iload hx hb dX12_laysFront_111 (lv_at hl 0 rfl) ?_
              refine va_lald hx hb hK hP 21 20 rfl rfl h_10 dX12_laysFront_113 ?_
              refine va_last hx hb hK hP hD hS 21 20 rfl rfl h_11 dX12_laysFront_114 (fun H locs hP hD hS => ?_)
              obtain ⟨g_13, eg_13⟩ : ∃ g : Nat → Int64, g = (vp_updL s_7.2.2.2.1 s_7.1.toNatClampNeg (s_7.2.2.2.1 s_7.2.1.toNatClampNeg)) := ⟨_, rfl⟩
              have hfn := zn_s hfn eg_13
              have hP : va_P (dC, dI) vwCl [(h0, .inr (12, zO a0 (zI (zI (zI b0 41 s_5.2.1) 42 s_5.2.2.1) 57 s_5.2.2.2.1) c0)), zVi (a0 12) k1 2 f1, zVi (a0 17) k2 2 f2, zVi (a0 37) k3 14 f3, zVi (a0 39) k4 14 s_5.2.2.2.2.2.2.1, zVi (a0 29) k5 14 f5, zVi (a0 27) k6 28 f6, zVi (a0 19) k7 28 f7, zVi (a0 20) k8 28 f8, zVi (a0 21) k9 28 f9, zVl (a0 31) k10 14 s_5.2.2.2.2.1, zVl (a0 22) k11 28 f11, zVl (a0 23) k12 28 f12, zVl (a0 32) k13 14 s_5.2.2.2.2.2.1, zVi (a0 14) k14 8 f14, zVl (a0 40) k15 14 s_5.2.2.2.2.2.2.2.1, zVi (a0 15) k16 8 f16, zVi (a0 26) k17 28 f17, zVi (a0 24) k18 2 f18, zVi (a0 16) k19 8 f19, zVi (a0 54) k20 1024 g_12, zVl (a0 55) k21 1024 g_13, zVi (a0 56) k22 1024 s_7.2.2.2.2] H := by rw [eg_13]; exact hP
              have hD : va_D A [(h0, .inr (12, zO a0 (zI (zI (zI b0 41 s_5.2.1) 42 s_5.2.2.1) 57 s_5.2.2.2.1) c0)), zVi (a0 12) k1 2 f1, zVi (a0 17) k2 2 f2, zVi (a0 37) k3 14 f3, zVi (a0 39) k4 14 s_5.2.2.2.2.2.2.1, zVi (a0 29) k5 14 f5, zVi (a0 27) k6 28 f6, zVi (a0 19) k7 28 f7, zVi (a0 20) k8 28 f8, zVi (a0 21) k9 28 f9, zVl (a0 31) k10 14 s_5.2.2.2.2.1, zVl (a0 22) k11 28 f11, zVl (a0 23) k12 28 f12, zVl (a0 32) k13 14 s_5.2.2.2.2.2.1, zVi (a0 14) k14 8 f14, zVl (a0 40) k15 14 s_5.2.2.2.2.2.2.2.1, zVi (a0 15) k16 8 f16, zVi (a0 26) k17 28 f17, zVi (a0 24) k18 2 f18, zVi (a0 16) k19 8 f19, zVi (a0 54) k20 1024 g_12, zVl (a0 55) k21 1024 g_13, zVi (a0 56) k22 1024 s_7.2.2.2.2] := by rw [eg_13]; exact hD
              refine lv_aload_n hx hb dX12_laysFront_115 rfl (lv_at hl 2 rfl) ?_
              refine va_get (D := (dC, dI)) (ci := 12) (v := .ref (a0 56)) (C := RX12) (T := TX12) (N := 67) hx hb hts zn_X12_laysFront_X12 hown hK hP 0 rfl rfl 56 (of_decide_eq_true rfl) (hts (.fieldLink RX12 183 "ShortEnoughModel" "frontMany" "[I") zw_X12_laysFront_1303) (fun _ h9 => h9) rfl dX12_laysFront_116 ?_
              refine lv_iload_n hx hb dX12_laysFront_119 rfl (lv_at hl 1 rfl) ?_
              refine lv_aload_n hx hb dX12_laysFront_120 rfl (lv_at hl 2 rfl) ?_
              refine va_get (D := (dC, dI)) (ci := 12) (v := .ref (a0 56)) (C := RX12) (T := TX12) (N := 67) hx hb hts zn_X12_laysFront_X12 hown hK hP 0 rfl rfl 56 (of_decide_eq_true rfl) (hts (.fieldLink RX12 183 "ShortEnoughModel" "frontMany" "[I") zw_X12_laysFront_1303) (fun _ h9 => h9) rfl dX12_laysFront_121 ?_
              refine lv_iload hx hb dX12_laysFront_124 (lv_at hl 0 rfl) ?_
              refine va_iald hx hb hK hP 22 21 rfl rfl h_10 dX12_laysFront_126 ?_
              refine va_iast hx hb hK hP hD hS 22 21 rfl rfl h_11 dX12_laysFront_127 (fun H locs hP hD hS => ?_)
              obtain ⟨g_14, eg_14⟩ : ∃ g : Nat → Int32, g = (upd s_7.2.2.2.2 s_7.1.toNatClampNeg (s_7.2.2.2.2 s_7.2.1.toNatClampNeg)) := ⟨_, rfl⟩
              have hfn := zn_s hfn eg_14
              have hP : va_P (dC, dI) vwCl [(h0, .inr (12, zO a0 (zI (zI (zI b0 41 s_5.2.1) 42 s_5.2.2.1) 57 s_5.2.2.2.1) c0)), zVi (a0 12) k1 2 f1, zVi (a0 17) k2 2 f2, zVi (a0 37) k3 14 f3, zVi (a0 39) k4 14 s_5.2.2.2.2.2.2.1, zVi (a0 29) k5 14 f5, zVi (a0 27) k6 28 f6, zVi (a0 19) k7 28 f7, zVi (a0 20) k8 28 f8, zVi (a0 21) k9 28 f9, zVl (a0 31) k10 14 s_5.2.2.2.2.1, zVl (a0 22) k11 28 f11, zVl (a0 23) k12 28 f12, zVl (a0 32) k13 14 s_5.2.2.2.2.2.1, zVi (a0 14) k14 8 f14, zVl (a0 40) k15 14 s_5.2.2.2.2.2.2.2.1, zVi (a0 15) k16 8 f16, zVi (a0 26) k17 28 f17, zVi (a0 24) k18 2 f18, zVi (a0 16) k19 8 f19, zVi (a0 54) k20 1024 g_12, zVl (a0 55) k21 1024 g_13, zVi (a0 56) k22 1024 g_14] H := by rw [eg_14]; exact hP
              have hD : va_D A [(h0, .inr (12, zO a0 (zI (zI (zI b0 41 s_5.2.1) 42 s_5.2.2.1) 57 s_5.2.2.2.1) c0)), zVi (a0 12) k1 2 f1, zVi (a0 17) k2 2 f2, zVi (a0 37) k3 14 f3, zVi (a0 39) k4 14 s_5.2.2.2.2.2.2.1, zVi (a0 29) k5 14 f5, zVi (a0 27) k6 28 f6, zVi (a0 19) k7 28 f7, zVi (a0 20) k8 28 f8, zVi (a0 21) k9 28 f9, zVl (a0 31) k10 14 s_5.2.2.2.2.1, zVl (a0 22) k11 28 f11, zVl (a0 23) k12 28 f12, zVl (a0 32) k13 14 s_5.2.2.2.2.2.1, zVi (a0 14) k14 8 f14, zVl (a0 40) k15 14 s_5.2.2.2.2.2.2.2.1, zVi (a0 15) k16 8 f16, zVi (a0 26) k17 28 f17, zVi (a0 24) k18 2 f18, zVi (a0 16) k19 8 f19, zVi (a0 54) k20 1024 g_12, zVl (a0 55) k21 1024 g_13, zVi (a0 56) k22 1024 g_14] := by rw [eg_14]; exact hD
              refine lv_iinc (v := (s_7.1 + 1)) (lv' := [(3, .int (s_7.1 + 1)), (4, .int s_7.2.1), (0, .ref h0)]) hx hb dX12_laysFront_128 hl (k := 1) rfl rfl (of_decide_eq_true rfl) rfl (fun ls hl => ?_)
              refine lv_iinc (v := (s_7.2.1 + 1)) (lv' := [(4, .int (s_7.2.1 + 1)), (3, .int (s_7.1 + 1)), (0, .ref h0)]) hx hb dX12_laysFront_131 hl (k := 1) rfl rfl (of_decide_eq_true rfl) rfl (fun ls hl => ?_)
              refine lv_goto (tgt := 54) hx hb dX12_laysFront_134 (of_decide_eq_true rfl) ?_
              exact ih_7 ((s_7.1 + 1), (s_7.2.1 + 1), g_12, g_13, g_14) H locs ls hfn hP hD hS (lv_sub hl [0, 1, 2] rfl)
            refine lv_if_le (tgt := 89) hx hb dX12_laysFront_64 (of_decide_eq_true rfl) (fun c_15 => ?_) (fun c_15 => ?_)
            · have hfn := (if_pos c_15).symm.trans hfn
              exact jp_9 () H locs ls hfn hP hD hS (lv_sub hl [0, 1, 2] rfl)
            have hfn := (if_neg c_15).symm.trans hfn
            refine lv_aload_n hx hb dX12_laysFront_67 rfl (lv_at hl 2 rfl) ?_
            refine va_get (D := (dC, dI)) (ci := 12) (v := .ref (a0 55)) (C := RX12) (T := TX12) (N := 67) hx hb hts zn_X12_laysFront_X12 hown hK hP 0 rfl rfl 55 (of_decide_eq_true rfl) (hts (.fieldLink RX12 180 "ShortEnoughModel" "frontError" "[J") zw_X12_laysFront_1302) (fun _ h9 => h9) rfl dX12_laysFront_68 ?_
            refine lv_iload hx hb dX12_laysFront_71 (lv_at hl 0 rfl) ?_
            obtain ⟨h_16, hfn⟩ := zg_s hfn
            refine va_lald hx hb hK hP 21 20 rfl rfl h_16 dX12_laysFront_73 ?_
            refine lv_aload_n hx hb dX12_laysFront_74 rfl (lv_at hl 2 rfl) ?_
            refine va_get (D := (dC, dI)) (ci := 12) (v := .ref (a0 55)) (C := RX12) (T := TX12) (N := 67) hx hb hts zn_X12_laysFront_X12 hown hK hP 0 rfl rfl 55 (of_decide_eq_true rfl) (hts (.fieldLink RX12 180 "ShortEnoughModel" "frontError" "[J") zw_X12_laysFront_1302) (fun _ h9 => h9) rfl dX12_laysFront_75 ?_
            refine lv_iload_n hx hb dX12_laysFront_78 rfl (lv_at hl 1 rfl) ?_
            refine lv_iconst (v := 1) hx hb dX12_laysFront_79 zci_1 ?_
            refine lv_isub hx hb dX12_laysFront_80 ?_
            obtain ⟨h_17, hfn⟩ := zg_s hfn
            refine va_lald hx hb hK hP 21 20 rfl rfl h_17 dX12_laysFront_81 ?_
            refine W.lcmp hx hb dX12_laysFront_82 ?_
            refine lv_if_lt (tgt := 89) hx hb dX12_laysFront_83 (of_decide_eq_true rfl) (fun c_18 => ?_) (fun c_18 => ?_)
            · have hfn := (if_pos c_18).symm.trans hfn
              exact jp_9 () H locs ls hfn hP hD hS (lv_sub hl [0, 1, 2] rfl)
            have hfn := (if_neg c_18).symm.trans hfn
            refine lv_goto (tgt := 131) hx hb dX12_laysFront_86 (of_decide_eq_true rfl) ?_
            refine lv_iinc (v := (s_7.2.1 + 1)) (lv' := [(4, .int (s_7.2.1 + 1)), (3, .int s_7.1), (0, .ref h0)]) hx hb dX12_laysFront_131 hl (k := 0) rfl rfl (of_decide_eq_true rfl) rfl (fun ls hl => ?_)
            refine lv_goto (tgt := 54) hx hb dX12_laysFront_134 (of_decide_eq_true rfl) ?_
            exact ih_7 (s_7.1, (s_7.2.1 + 1), s_7.2.2.1, s_7.2.2.2.1, s_7.2.2.2.2) H locs ls hfn hP hD hS (lv_sub hl [0, 1, 2] rfl)
        exact lp_7 _ (0, 0, s_5.2.2.2.2.2.2.2.2.1, s_5.2.2.2.2.2.2.2.2.2.1, s_5.2.2.2.2.2.2.2.2.2.2) H locs ls hfn hP hD hS (lv_sub hl [0, 1, 3] rfl)
      have hfn := (if_neg c_6).symm.trans hfn
      refine lv_aload_n hx hb dX12_laysFront_17 rfl (lv_at hl 2 rfl) ?_
      refine lv_iload_n hx hb dX12_laysFront_18 rfl (lv_at hl 0 rfl) ?_
      obtain ⟨o_19, hqo_19, hfn⟩ := zb_s hfn
      refine zcVv (ci := 12) (rest := []) (pc' := 22) (ws' := [(h0, .inr (12, zO a0 (zI (zI (zI b0 41 s_5.2.1) 42 s_5.2.2.1) 57 s_5.2.2.2.1) c0)), zVi (a0 12) k1 2 f1, zVi (a0 17) k2 2 f2, zVi (a0 37) k3 14 f3, zVi (a0 39) k4 14 o_19, zVi (a0 29) k5 14 f5, zVi (a0 27) k6 28 f6, zVi (a0 19) k7 28 f7, zVi (a0 20) k8 28 f8, zVi (a0 21) k9 28 f9, zVl (a0 31) k10 14 s_5.2.2.2.2.1, zVl (a0 22) k11 28 f11, zVl (a0 23) k12 28 f12, zVl (a0 32) k13 14 s_5.2.2.2.2.2.1, zVi (a0 14) k14 8 f14, zVl (a0 40) k15 14 s_5.2.2.2.2.2.2.2.1, zVi (a0 15) k16 8 f16, zVi (a0 26) k17 28 f17, zVi (a0 24) k18 2 f18, zVi (a0 16) k19 8 f19, zVi (a0 54) k20 1024 s_5.2.2.2.2.2.2.2.2.1, zVl (a0 55) k21 1024 s_5.2.2.2.2.2.2.2.2.2.1, zVi (a0 56) k22 1024 s_5.2.2.2.2.2.2.2.2.2.2]) hP hK hD hS hA ⟨hx, hb, hml, hown, hts⟩ (zf_X12_triesChoice l dC dI h0 s_5.1 a0 (zI (zI (zI b0 41 s_5.2.1) 42 s_5.2.2.1) 57 s_5.2.2.2.1) c0 k2 f2 k3 f3 k4 s_5.2.2.2.2.2.2.1 k5 f5 k1 f1 k6 f6 o_19 hqo_19 H.size) (cwV 1 hts gX12_laysFront_X12_triesChoice rfl rfl rfl zhd_X12_triesChoice ⟨Nat.le_of_ble_eq_true rfl, Nat.le_of_ble_eq_true rfl⟩) [0, 2, 3, 4, 5, 1, 6] rfl (of_decide_eq_true rfl) [1, 2, 3, 4, 0, 5] rfl rfl rfl rfl hl.1 rfl (Nat.le_of_ble_eq_true rfl) dX12_laysFront_19 ⟨Nat.le_of_ble_eq_true rfl, Nat.le_of_ble_eq_true rfl⟩ [some 0, some 5, some 1, some 2, some 3, some 4, some 6] (of_decide_eq_true rfl) (of_decide_eq_true rfl) rfl rfl rfl (fun H locs hP hD hS => ?_)
      refine lv_aload_n hx hb dX12_laysFront_22 rfl (lv_at hl 2 rfl) ?_
      obtain ⟨o_23, hqo_23, hfn⟩ := zb_s hfn
      refine zcVb (ci := 12) (rest := []) (pc' := 26) (ws' := [(h0, .inr (12, zO a0 (zI (zI (zI b0 41 o_23.2.1) 42 o_23.2.2.1) 57 s_5.2.2.2.1) c0)), zVi (a0 12) k1 2 f1, zVi (a0 17) k2 2 f2, zVi (a0 37) k3 14 f3, zVi (a0 39) k4 14 o_19, zVi (a0 29) k5 14 f5, zVi (a0 27) k6 28 f6, zVi (a0 19) k7 28 f7, zVi (a0 20) k8 28 f8, zVi (a0 21) k9 28 f9, zVl (a0 31) k10 14 o_23.2.2.2.1, zVl (a0 22) k11 28 f11, zVl (a0 23) k12 28 f12, zVl (a0 32) k13 14 o_23.2.2.2.2.1, zVi (a0 14) k14 8 f14, zVl (a0 40) k15 14 o_23.2.2.2.2.2, zVi (a0 15) k16 8 f16, zVi (a0 26) k17 28 f17, zVi (a0 24) k18 2 f18, zVi (a0 16) k19 8 f19, zVi (a0 54) k20 1024 s_5.2.2.2.2.2.2.2.2.1, zVl (a0 55) k21 1024 s_5.2.2.2.2.2.2.2.2.2.1, zVi (a0 56) k22 1024 s_5.2.2.2.2.2.2.2.2.2.2]) hP hK hD hS hA ⟨hx, hb, hml, hown, hts⟩ (zf_X12_passes l dC dI h0 a0 (zI (zI (zI b0 41 s_5.2.1) 42 s_5.2.2.1) 57 s_5.2.2.2.1) c0 k2 f2 k7 f7 k8 f8 k9 f9 k10 s_5.2.2.2.2.1 k11 f11 k12 f12 k13 s_5.2.2.2.2.2.1 k4 o_19 k14 f14 k15 s_5.2.2.2.2.2.2.2.1 k16 f16 k17 f17 o_23 hqo_23 H.size) (cwV 0 hts gX12_laysFront_X12_passes rfl rfl rfl zhd_X12_passes ⟨Nat.le_of_ble_eq_true rfl, Nat.le_of_ble_eq_true rfl⟩) [0, 2, 7, 8, 9, 10, 11, 12, 13, 4, 14, 15, 16, 17] rfl (of_decide_eq_true rfl) [1, 6, 7, 8, 9, 10, 11, 12, 3, 13, 14, 15, 16] rfl rfl rfl rfl hl.1 rfl (Nat.le_of_ble_eq_true rfl) dX12_laysFront_23 ⟨Nat.le_of_ble_eq_true rfl, Nat.le_of_ble_eq_true rfl⟩ [some 0, none, some 1, none, some 9, none, none, some 2, some 3, some 4, some 5, some 6, some 7, some 8, some 10, some 11, some 12, some 13] (of_decide_eq_true rfl) (of_decide_eq_true rfl) rfl rfl rfl (fun H locs hw_26n hP hD hS => ?_)
      refine lv_if_eq (tgt := 43) hx hb dX12_laysFront_26 (of_decide_eq_true rfl) (fun c_27 => ?_) (fun c_27 => ?_)
      · have hfn := (if_pos c_27).symm.trans hfn
        refine lv_iinc (v := (s_5.1 + 1)) (lv' := [(3, .int (s_5.1 + 1)), (2, .int o_1), (0, .ref h0), (1, .int p1)]) hx hb dX12_laysFront_43 hl (k := 0) rfl rfl (of_decide_eq_true rfl) rfl (fun ls hl => ?_)
        refine lv_goto (tgt := 12) hx hb dX12_laysFront_46 (of_decide_eq_true rfl) ?_
        exact ih_5 ((s_5.1 + 1), o_23.2.1, o_23.2.2.1, s_5.2.2.2.1, o_23.2.2.2.1, o_23.2.2.2.2.1, o_19, o_23.2.2.2.2.2, s_5.2.2.2.2.2.2.2.2.1, s_5.2.2.2.2.2.2.2.2.2.1, s_5.2.2.2.2.2.2.2.2.2.2) H locs ls hfn hP hD hS (lv_sub hl [0, 1, 2, 3] rfl)
      have hfn := (if_neg c_27).symm.trans hfn
      refine lv_aload_n hx hb dX12_laysFront_29 rfl (lv_at hl 2 rfl) ?_
      refine lv_aload_n hx hb dX12_laysFront_30 rfl (lv_at hl 2 rfl) ?_
      obtain ⟨o_28, hqo_28, hfn⟩ := zb_s hfn
      refine zcVi (ci := 12) (rest := [.ref h0]) (pc' := 34) (ws' := [(h0, .inr (12, zO a0 (zI (zI (zI b0 41 o_23.2.1) 42 o_23.2.2.1) 57 s_5.2.2.2.1) c0)), zVi (a0 12) k1 2 f1, zVi (a0 17) k2 2 f2, zVi (a0 37) k3 14 f3, zVi (a0 39) k4 14 o_19, zVi (a0 29) k5 14 f5, zVi (a0 27) k6 28 f6, zVi (a0 19) k7 28 f7, zVi (a0 20) k8 28 f8, zVi (a0 21) k9 28 f9, zVl (a0 31) k10 14 o_23.2.2.2.1, zVl (a0 22) k11 28 f11, zVl (a0 23) k12 28 f12, zVl (a0 32) k13 14 o_23.2.2.2.2.1, zVi (a0 14) k14 8 f14, zVl (a0 40) k15 14 o_23.2.2.2.2.2, zVi (a0 15) k16 8 f16, zVi (a0 26) k17 28 f17, zVi (a0 24) k18 2 f18, zVi (a0 16) k19 8 f19, zVi (a0 54) k20 1024 s_5.2.2.2.2.2.2.2.2.1, zVl (a0 55) k21 1024 s_5.2.2.2.2.2.2.2.2.2.1, zVi (a0 56) k22 1024 s_5.2.2.2.2.2.2.2.2.2.2]) hP hK hD hS hA ⟨hx, hb, hml, hown, hts⟩ (zf_X12_costTried l dC dI h0 a0 (zI (zI (zI b0 41 o_23.2.1) 42 o_23.2.2.1) 57 s_5.2.2.2.1) c0 k18 f18 k2 f2 k8 f8 k4 o_19 k9 f9 k19 f19 o_28 hqo_28 H.size) (cwV 0 hts gX12_laysFront_X12_costTried rfl rfl rfl zhd_X12_costTried ⟨Nat.le_of_ble_eq_true rfl, Nat.le_of_ble_eq_true rfl⟩) [0, 18, 2, 8, 4, 9, 19] rfl (of_decide_eq_true rfl) [17, 1, 7, 3, 8, 18] rfl rfl rfl rfl hl.1 rfl (Nat.le_of_ble_eq_true rfl) dX12_laysFront_31 ⟨Nat.le_of_ble_eq_true rfl, Nat.le_of_ble_eq_true rfl⟩ [some 0, none, some 2, none, some 4, none, none, none, some 3, some 5, none, none, none, none, none, none, none, none, some 1, some 6] (of_decide_eq_true rfl) (of_decide_eq_true rfl) rfl rfl rfl (fun H locs hP hD hS => ?_)
      refine lv_aload_n hx hb dX12_laysFront_34 rfl (lv_at hl 2 rfl) ?_
      refine va_get (D := (dC, dI)) (ci := 12) (v := .ref (a0 40)) (C := RX12) (T := TX12) (N := 67) hx hb hts zn_X12_laysFront_X12 hown hK hP 0 rfl rfl 40 (of_decide_eq_true rfl) (hts (.fieldLink RX12 135 "ShortEnoughModel" "error" "[J") zw_X12_laysFront_1300) (fun _ h9 => h9) rfl dX12_laysFront_35 ?_
      refine lv_iload_n hx hb dX12_laysFront_38 rfl (lv_at hl 3 rfl) ?_
      obtain ⟨h_32, hfn⟩ := zg_s hfn
      refine va_lald hx hb hK hP 15 14 rfl rfl h_32 dX12_laysFront_39 ?_
      obtain ⟨o_33, hqo_33, hfn⟩ := zb_s hfn
      refine zcVv (ci := 12) (rest := []) (pc' := 43) (ws' := [(h0, .inr (12, zO a0 (zI (zI (zI b0 41 o_23.2.1) 42 o_23.2.2.1) 57 o_33.1) c0)), zVi (a0 12) k1 2 f1, zVi (a0 17) k2 2 f2, zVi (a0 37) k3 14 f3, zVi (a0 39) k4 14 o_19, zVi (a0 29) k5 14 f5, zVi (a0 27) k6 28 f6, zVi (a0 19) k7 28 f7, zVi (a0 20) k8 28 f8, zVi (a0 21) k9 28 f9, zVl (a0 31) k10 14 o_23.2.2.2.1, zVl (a0 22) k11 28 f11, zVl (a0 23) k12 28 f12, zVl (a0 32) k13 14 o_23.2.2.2.2.1, zVi (a0 14) k14 8 f14, zVl (a0 40) k15 14 o_23.2.2.2.2.2, zVi (a0 15) k16 8 f16, zVi (a0 26) k17 28 f17, zVi (a0 24) k18 2 f18, zVi (a0 16) k19 8 f19, zVi (a0 54) k20 1024 o_33.2.1, zVl (a0 55) k21 1024 o_33.2.2.1, zVi (a0 56) k22 1024 o_33.2.2.2]) hP hK hD hS hA ⟨hx, hb, hml, hown, hts⟩ (zf_X12_laysCouple l dC dI h0 o_28 (o_23.2.2.2.2.2 p1.toNatClampNeg) a0 (zI (zI (zI b0 41 o_23.2.1) 42 o_23.2.2.1) 57 s_5.2.2.2.1) c0 k20 s_5.2.2.2.2.2.2.2.2.1 k21 s_5.2.2.2.2.2.2.2.2.2.1 k22 s_5.2.2.2.2.2.2.2.2.2.2 o_33 hqo_33 H.size) (cwV 2 hts gX12_laysFront_X12_laysCouple rfl rfl rfl zhd_X12_laysCouple ⟨Nat.le_of_ble_eq_true rfl, Nat.le_of_ble_eq_true rfl⟩) [0, 20, 21, 22] rfl (of_decide_eq_true rfl) [19, 20, 21] rfl rfl rfl rfl hl.1 rfl (Nat.le_of_ble_eq_true rfl) dX12_laysFront_40 ⟨Nat.le_of_ble_eq_true rfl, Nat.le_of_ble_eq_true rfl⟩ [some 0, none, none, none, none, none, none, none, none, none, none, none, none, none, none, none, none, none, none, none, some 1, some 2, some 3] (of_decide_eq_true rfl) (of_decide_eq_true rfl) rfl rfl rfl (fun H locs hP hD hS => ?_)
      refine lv_iinc (v := (s_5.1 + 1)) (lv' := [(3, .int (s_5.1 + 1)), (2, .int o_1), (0, .ref h0), (1, .int p1)]) hx hb dX12_laysFront_43 hl (k := 0) rfl rfl (of_decide_eq_true rfl) rfl (fun ls hl => ?_)
      refine lv_goto (tgt := 12) hx hb dX12_laysFront_46 (of_decide_eq_true rfl) ?_
      exact ih_5 ((s_5.1 + 1), o_23.2.1, o_23.2.2.1, o_33.1, o_23.2.2.2.1, o_23.2.2.2.2.1, o_19, o_23.2.2.2.2.2, o_33.2.1, o_33.2.2.1, o_33.2.2.2) H locs ls hfn hP hD hS (lv_sub hl [0, 1, 2, 3] rfl)
  exact lp_5 _ (0, (b0 41), (b0 42), 0, f10, f13, f4, f15, f20, f21, f22) H locs ls hfn hP hD hS (lv_sub hl [0, 1, 2, 3] rfl)
theorem zw_X12_front_1304 : Cond.constantLong RX12 381 (-1000000000000000) ∈ wsX12_front := List.mem_of_getElem? (i := 2) (by decide +kernel)
theorem zw_X12_front_1305 : Cond.constantLong RX12 383 (2) ∈ wsX12_front := List.mem_of_getElem? (i := 1) (by decide +kernel)
theorem zn_X12_front_X12 : ∀ w ∈ wsX120, w ∈ wsX12_front := fun _ h => List.mem_cons_of_mem _ (List.mem_append_right _ h)
theorem zw_X12_front_1307 : Cond.fieldLink RX12 186 "ShortEnoughModel" "fronts" "I" ∈ wsX12_front := List.mem_of_getElem? (i := 3) (by decide +kernel)
theorem zw_X12_front_1308 : Cond.fieldLink RX12 183 "ShortEnoughModel" "frontMany" "[I" ∈ wsX12_front := List.mem_of_getElem? (i := 6) (by decide +kernel)
theorem zw_X12_front_1309 : Cond.fieldLink RX12 180 "ShortEnoughModel" "frontError" "[J" ∈ wsX12_front := List.mem_of_getElem? (i := 5) (by decide +kernel)
theorem zw_X12_front_1310 : Cond.fieldLink RX12 177 "ShortEnoughModel" "frontCost" "[I" ∈ wsX12_front := List.mem_of_getElem? (i := 4) (by decide +kernel)
set_option maxHeartbeats 4000000 in
set_option maxRecDepth 100000 in
theorem zf_X12_front (l : Launch) (dC : Nat → ClassId) (dI : Nat → Nat → Nat) (h0 : Nat) (p1 : Int32) (p2 : Int32) (p3 : Int32) (a0 : Nat → Nat) (b0 : Nat → Int32) (c0 : Nat → Int64) (k1 : Nat) (f1 : Nat → Int32) (k2 : Nat) (f2 : Nat → Int32) (k3 : Nat) (f3 : Nat → Int32) (k4 : Nat) (f4 : Nat → Int32) (k5 : Nat) (f5 : Nat → Int32) (k6 : Nat) (f6 : Nat → Int32) (k7 : Nat) (f7 : Nat → Int32) (k8 : Nat) (f8 : Nat → Int32) (k9 : Nat) (f9 : Nat → Int32) (k10 : Nat) (f10 : Nat → Int32) (k11 : Nat) (f11 : Nat → Int32) (k12 : Nat) (f12 : Nat → Int64) (k13 : Nat) (f13 : Nat → Int64) (k14 : Nat) (f14 : Nat → Int64) (k15 : Nat) (f15 : Nat → Int64) (k16 : Nat) (f16 : Nat → Int32) (k17 : Nat) (f17 : Nat → Int64) (k18 : Nat) (f18 : Nat → Int32) (k19 : Nat) (f19 : Nat → Int32) (k20 : Nat) (f20 : Nat → Int32) (k21 : Nat) (f21 : Nat → Int32) (k22 : Nat) (f22 : Nat → Int64) (k23 : Nat) (f23 : Nat → Int32) (o : Int64 × Int32 × Int32 × Int32 × Int32 × Int32 × (Nat → Int32) × (Nat → Int32) × (Nat → Int64) × (Nat → Int64) × (Nat → Int64) × (Nat → Int32) × (Nat → Int64) × (Nat → Int32)) (hfn : fn_X12_front p1 p2 p3 (b0 30) (b0 33) (c0 34) (b0 38) (b0 41) (b0 42) (b0 57) f1 f2 f3 f4 f5 f6 f7 f8 f9 f10 f11 f12 f13 f14 f15 f16 f17 f18 f19 f20 f21 f22 f23 = some o) (sz : Nat) : zMl l yX12_front wsX12_front ({ frames := 6, cells := 0, slots := 0, locals := 158 }) (dC, dI) vwCl [.ref h0, .int p1, .int p2, .int p3] [(h0, .inr (12, zO a0 b0 c0)), zVi (a0 17) k1 2 f1, zVi (a0 26) k2 28 f2, zVi (a0 27) k3 28 f3, zVi (a0 25) k4 28 f4, zVi (a0 29) k5 14 f5, zVi (a0 12) k6 2 f6, zVi (a0 37) k7 14 f7, zVi (a0 39) k8 14 f8, zVi (a0 19) k9 28 f9, zVi (a0 20) k10 28 f10, zVi (a0 21) k11 28 f11, zVl (a0 31) k12 14 f12, zVl (a0 22) k13 28 f13, zVl (a0 23) k14 28 f14, zVl (a0 32) k15 14 f15, zVi (a0 14) k16 8 f16, zVl (a0 40) k17 14 f17, zVi (a0 15) k18 8 f18, zVi (a0 24) k19 2 f19, zVi (a0 16) k20 8 f20, zVi (a0 54) k21 1024 f21, zVl (a0 55) k22 1024 f22, zVi (a0 56) k23 1024 f23] [(k1, .int), (k2, .int), (k3, .int), (k4, .int), (k5, .int), (k6, .int), (k7, .int), (k8, .int), (k9, .int), (k10, .int), (k11, .int), (k12, .long), (k13, .long), (k14, .long), (k15, .long), (k16, .int), (k17, .long), (k18, .int), (k19, .int), (k20, .int), (k21, .int), (k22, .long), (k23, .int)] (fun r _ => r = o.1) [(h0, .inr (12, zO a0 (zI (zI (zI (zI (zI b0 30 o.2.1) 33 o.2.2.1) 41 o.2.2.2.1) 42 o.2.2.2.2.1) 57 o.2.2.2.2.2.1) c0)), zVi (a0 17) k1 2 f1, zVi (a0 26) k2 28 f2, zVi (a0 27) k3 28 f3, zVi (a0 25) k4 28 f4, zVi (a0 29) k5 14 o.2.2.2.2.2.2.1, zVi (a0 12) k6 2 f6, zVi (a0 37) k7 14 f7, zVi (a0 39) k8 14 o.2.2.2.2.2.2.2.1, zVi (a0 19) k9 28 f9, zVi (a0 20) k10 28 f10, zVi (a0 21) k11 28 f11, zVl (a0 31) k12 14 o.2.2.2.2.2.2.2.2.1, zVl (a0 22) k13 28 f13, zVl (a0 23) k14 28 f14, zVl (a0 32) k15 14 o.2.2.2.2.2.2.2.2.2.1, zVi (a0 14) k16 8 f16, zVl (a0 40) k17 14 o.2.2.2.2.2.2.2.2.2.2.1, zVi (a0 15) k18 8 f18, zVi (a0 24) k19 2 f19, zVi (a0 16) k20 8 f20, zVi (a0 54) k21 1024 o.2.2.2.2.2.2.2.2.2.2.2.1, zVl (a0 55) k22 1024 o.2.2.2.2.2.2.2.2.2.2.2.2.1, zVi (a0 56) k23 1024 o.2.2.2.2.2.2.2.2.2.2.2.2.2] [(k1, .int), (k2, .int), (k3, .int), (k4, .int), (k5, .int), (k6, .int), (k7, .int), (k8, .int), (k9, .int), (k10, .int), (k11, .int), (k12, .long), (k13, .long), (k14, .long), (k15, .long), (k16, .int), (k17, .long), (k18, .int), (k19, .int), (k20, .int), (k21, .int), (k22, .long), (k23, .int)] sz := by
  refine zgol (cc := cX12_front) (maxL := 4) (ret := (some .long)) (C0 := RX12) (lv0 := [(0, .ref h0), (1, .int p1), (2, .int p2), (3, .int p3)]) zpl_X12 rfl rfl rfl (Nat.le_of_ble_eq_true rfl) ?_
  intro p e s m below meth c A ls Q hx hb hr hts hown hlocks hml hP hK hD hA hS hl hQ
  unfold fn_X12_front at hfn
  refine lv_aload_n hx hb dX12_front_0 rfl (lv_at hl 0 rfl) ?_
  refine lv_iload_n hx hb dX12_front_1 rfl (lv_at hl 1 rfl) ?_
  obtain ⟨o_1, hqo_1, hfn⟩ := zb_s hfn
  refine zcVb (ci := 12) (rest := []) (pc' := 5) (ws' := [(h0, .inr (12, zO a0 b0 c0)), zVi (a0 17) k1 2 f1, zVi (a0 26) k2 28 f2, zVi (a0 27) k3 28 f3, zVi (a0 25) k4 28 f4, zVi (a0 29) k5 14 f5, zVi (a0 12) k6 2 f6, zVi (a0 37) k7 14 f7, zVi (a0 39) k8 14 f8, zVi (a0 19) k9 28 f9, zVi (a0 20) k10 28 f10, zVi (a0 21) k11 28 f11, zVl (a0 31) k12 14 f12, zVl (a0 22) k13 28 f13, zVl (a0 23) k14 28 f14, zVl (a0 32) k15 14 f15, zVi (a0 14) k16 8 f16, zVl (a0 40) k17 14 f17, zVi (a0 15) k18 8 f18, zVi (a0 24) k19 2 f19, zVi (a0 16) k20 8 f20, zVi (a0 54) k21 1024 f21, zVl (a0 55) k22 1024 f22, zVi (a0 56) k23 1024 f23]) hP hK hD hS hA ⟨hx, hb, hml, hown, hts⟩ (zf_X12_isAnswer l dC dI h0 p1 a0 b0 c0 k1 f1 k2 f2 o_1 hqo_1 s.heap.size) (cwV 1 hts gX12_front_X12_isAnswer rfl rfl rfl zhd_X12_isAnswer ⟨Nat.le_of_ble_eq_true rfl, Nat.le_of_ble_eq_true rfl⟩) [0, 1, 2] rfl (of_decide_eq_true rfl) [0, 1] rfl rfl rfl rfl hl.1 rfl (Nat.le_of_ble_eq_true rfl) dX12_front_2 ⟨Nat.le_of_ble_eq_true rfl, Nat.le_of_ble_eq_true rfl⟩ [some 0, some 1, some 2] (of_decide_eq_true rfl) (of_decide_eq_true rfl) rfl rfl rfl (fun H locs hw_4n hP hD hS => ?_)
  refine lv_if_eq (tgt := 27) hx hb dX12_front_5 (of_decide_eq_true rfl) (fun c_5 => ?_) (fun c_5 => ?_)
  · have hfn := (if_pos c_5).symm.trans hfn
    refine lv_ldc2 (v := (-1000000000000000)) hx hb hown (hts (.constantLong RX12 381 (-1000000000000000)) zw_X12_front_1304) dX12_front_27 ?_
    have ho := Option.some.inj hfn
    subst ho
    exact zrl hx hb hr hK hP hD hS hQ rfl hlocks dX12_front_30
  have hfn := (if_neg c_5).symm.trans hfn
  refine lv_aload_n hx hb dX12_front_8 rfl (lv_at hl 0 rfl) ?_
  obtain ⟨o_6, hqo_6, hfn⟩ := zb_s hfn
  refine zcVb (ci := 12) (rest := []) (pc' := 12) (ws' := [(h0, .inr (12, zO a0 (zI (zI b0 30 o_6.2.1) 33 o_6.2.2.1) c0)), zVi (a0 17) k1 2 f1, zVi (a0 26) k2 28 f2, zVi (a0 27) k3 28 f3, zVi (a0 25) k4 28 f4, zVi (a0 29) k5 14 o_6.2.2.2, zVi (a0 12) k6 2 f6, zVi (a0 37) k7 14 f7, zVi (a0 39) k8 14 f8, zVi (a0 19) k9 28 f9, zVi (a0 20) k10 28 f10, zVi (a0 21) k11 28 f11, zVl (a0 31) k12 14 f12, zVl (a0 22) k13 28 f13, zVl (a0 23) k14 28 f14, zVl (a0 32) k15 14 f15, zVi (a0 14) k16 8 f16, zVl (a0 40) k17 14 f17, zVi (a0 15) k18 8 f18, zVi (a0 24) k19 2 f19, zVi (a0 16) k20 8 f20, zVi (a0 54) k21 1024 f21, zVl (a0 55) k22 1024 f22, zVi (a0 56) k23 1024 f23]) hP hK hD hS hA ⟨hx, hb, hml, hown, hts⟩ (zf_X12_canSearch l dC dI h0 a0 b0 c0 k1 f1 k3 f3 k4 f4 k5 f5 o_6 hqo_6 H.size) (cwV 0 hts gX12_front_X12_canSearch rfl rfl rfl zhd_X12_canSearch ⟨Nat.le_of_ble_eq_true rfl, Nat.le_of_ble_eq_true rfl⟩) [0, 1, 3, 4, 5] rfl (of_decide_eq_true rfl) [0, 2, 3, 4] rfl rfl rfl rfl hl.1 rfl (Nat.le_of_ble_eq_true rfl) dX12_front_9 ⟨Nat.le_of_ble_eq_true rfl, Nat.le_of_ble_eq_true rfl⟩ [some 0, some 1, none, some 2, some 3, some 4] (of_decide_eq_true rfl) (of_decide_eq_true rfl) rfl rfl rfl (fun H locs hw_9n hP hD hS => ?_)
  refine lv_if_eq (tgt := 27) hx hb dX12_front_12 (of_decide_eq_true rfl) (fun c_10 => ?_) (fun c_10 => ?_)
  · have hfn := (if_pos c_10).symm.trans hfn
    refine lv_ldc2 (v := (-1000000000000000)) hx hb hown (hts (.constantLong RX12 381 (-1000000000000000)) zw_X12_front_1304) dX12_front_27 ?_
    have ho := Option.some.inj hfn
    subst ho
    exact zrl hx hb hr hK hP hD hS hQ rfl hlocks dX12_front_30
  have hfn := (if_neg c_10).symm.trans hfn
  refine lv_iload_n hx hb dX12_front_15 rfl (lv_at hl 3 rfl) ?_
  refine lv_i2l (v := p3.toInt64) hx hb dX12_front_16 rfl ?_
  refine lv_lconst (v := 0) hx hb dX12_front_17 (by decide +kernel) ?_
  refine lv_ldc2 (v := 2) hx hb hown (hts (.constantLong RX12 383 (2)) zw_X12_front_1305) dX12_front_18 ?_
  obtain ⟨o_11, hqo_11, hfn⟩ := zb_s hfn
  refine zcSb (rest := []) (pc' := 24) (ws' := [(h0, .inr (12, zO a0 (zI (zI b0 30 o_6.2.1) 33 o_6.2.2.1) c0)), zVi (a0 17) k1 2 f1, zVi (a0 26) k2 28 f2, zVi (a0 27) k3 28 f3, zVi (a0 25) k4 28 f4, zVi (a0 29) k5 14 o_6.2.2.2, zVi (a0 12) k6 2 f6, zVi (a0 37) k7 14 f7, zVi (a0 39) k8 14 f8, zVi (a0 19) k9 28 f9, zVi (a0 20) k10 28 f10, zVi (a0 21) k11 28 f11, zVl (a0 31) k12 14 f12, zVl (a0 22) k13 28 f13, zVl (a0 23) k14 28 f14, zVl (a0 32) k15 14 f15, zVi (a0 14) k16 8 f16, zVl (a0 40) k17 14 f17, zVi (a0 15) k18 8 f18, zVi (a0 24) k19 2 f19, zVi (a0 16) k20 8 f20, zVi (a0 54) k21 1024 f21, zVl (a0 55) k22 1024 f22, zVi (a0 56) k23 1024 f23]) hP hK hD hS hA ⟨hx, hb, hml, hown, hts⟩ (zf_X12_isIn l dC dI p3.toInt64 (0 : Int64) (2 : Int64) o_11 hqo_11 H.size) (va_cwS 3 hts gX12_front_X12_isIn rfl rfl rfl zhd_X12_isIn.2 ⟨Nat.le_of_ble_eq_true rfl, Nat.le_of_ble_eq_true rfl⟩) [] rfl (of_decide_eq_true rfl) [] rfl rfl hl.1 rfl (Nat.le_of_ble_eq_true rfl) dX12_front_21 ⟨Nat.le_of_ble_eq_true rfl, Nat.le_of_ble_eq_true rfl⟩ [] (of_decide_eq_true rfl) (of_decide_eq_true rfl) rfl rfl rfl (fun H locs hw_14n hP hD hS => ?_)
  refine lv_if_ne (tgt := 31) hx hb dX12_front_24 (of_decide_eq_true rfl) (fun c_15 => ?_) (fun c_15 => ?_)
  · have hfn := (if_neg c_15).symm.trans hfn
    refine lv_aload_n hx hb dX12_front_31 rfl (lv_at hl 0 rfl) ?_
    refine lv_iload_n hx hb dX12_front_32 rfl (lv_at hl 1 rfl) ?_
    obtain ⟨o_16, hqo_16, hfn⟩ := zb_s hfn
    refine zcVv (ci := 12) (rest := []) (pc' := 36) (ws' := [(h0, .inr (12, zO a0 (zI (zI (zI (zI (zI b0 30 o_6.2.1) 33 o_6.2.2.1) 41 o_16.1) 42 o_16.2.1) 57 o_16.2.2.1) c0)), zVi (a0 17) k1 2 f1, zVi (a0 26) k2 28 f2, zVi (a0 27) k3 28 f3, zVi (a0 25) k4 28 f4, zVi (a0 29) k5 14 o_6.2.2.2, zVi (a0 12) k6 2 f6, zVi (a0 37) k7 14 f7, zVi (a0 39) k8 14 o_16.2.2.2.1, zVi (a0 19) k9 28 f9, zVi (a0 20) k10 28 f10, zVi (a0 21) k11 28 f11, zVl (a0 31) k12 14 o_16.2.2.2.2.1, zVl (a0 22) k13 28 f13, zVl (a0 23) k14 28 f14, zVl (a0 32) k15 14 o_16.2.2.2.2.2.1, zVi (a0 14) k16 8 f16, zVl (a0 40) k17 14 o_16.2.2.2.2.2.2.1, zVi (a0 15) k18 8 f18, zVi (a0 24) k19 2 f19, zVi (a0 16) k20 8 f20, zVi (a0 54) k21 1024 o_16.2.2.2.2.2.2.2.1, zVl (a0 55) k22 1024 o_16.2.2.2.2.2.2.2.2.1, zVi (a0 56) k23 1024 o_16.2.2.2.2.2.2.2.2.2]) hP hK hD hS hA ⟨hx, hb, hml, hown, hts⟩ (zf_X12_laysFront l dC dI h0 p1 a0 (zI (zI b0 30 o_6.2.1) 33 o_6.2.2.1) c0 k6 f6 k1 f1 k7 f7 k8 f8 k5 o_6.2.2.2 k3 f3 k9 f9 k10 f10 k11 f11 k12 f12 k13 f13 k14 f14 k15 f15 k16 f16 k17 f17 k18 f18 k2 f2 k19 f19 k20 f20 k21 f21 k22 f22 k23 f23 o_16 hqo_16 H.size) (cwV 1 hts gX12_front_X12_laysFront rfl rfl rfl zhd_X12_laysFront ⟨Nat.le_of_ble_eq_true rfl, Nat.le_of_ble_eq_true rfl⟩) [0, 6, 1, 7, 8, 5, 3, 9, 10, 11, 12, 13, 14, 15, 16, 17, 18, 2, 19, 20, 21, 22, 23] rfl (of_decide_eq_true rfl) [5, 0, 6, 7, 4, 2, 8, 9, 10, 11, 12, 13, 14, 15, 16, 17, 1, 18, 19, 20, 21, 22] rfl rfl rfl rfl hl.1 rfl (Nat.le_of_ble_eq_true rfl) dX12_front_33 ⟨Nat.le_of_ble_eq_true rfl, Nat.le_of_ble_eq_true rfl⟩ [some 0, some 2, some 17, some 6, none, some 5, some 1, some 3, some 4, some 7, some 8, some 9, some 10, some 11, some 12, some 13, some 14, some 15, some 16, some 18, some 19, some 20, some 21, some 22] (of_decide_eq_true rfl) (of_decide_eq_true rfl) rfl rfl rfl (fun H locs hP hD hS => ?_)
    refine lv_iload_n hx hb dX12_front_36 rfl (lv_at hl 2 rfl) ?_
    refine lv_iconst (v := (-1)) hx hb dX12_front_37 zci_m1 ?_
    refine lv_icmp_ne (tgt := 57) hx hb dX12_front_38 (of_decide_eq_true rfl) (fun c_20 => ?_) (fun c_20 => ?_)
    · have hfn := (if_neg c_20).symm.trans hfn
      refine lv_iload_n hx hb dX12_front_57 rfl (lv_at hl 2 rfl) ?_
      refine lv_i2l (v := p2.toInt64) hx hb dX12_front_58 rfl ?_
      refine lv_lconst (v := 0) hx hb dX12_front_59 (by decide +kernel) ?_
      refine lv_aload_n hx hb dX12_front_60 rfl (lv_at hl 0 rfl) ?_
      refine va_get (D := (dC, dI)) (ci := 12) (v := .int o_16.2.2.1) (C := RX12) (T := TX12) (N := 67) hx hb hts zn_X12_front_X12 hown hK hP 0 rfl rfl 57 (of_decide_eq_true rfl) (hts (.fieldLink RX12 186 "ShortEnoughModel" "fronts" "I") zw_X12_front_1307) (fun _ h9 => h9) rfl dX12_front_61 ?_
      refine lv_i2l (v := o_16.2.2.1.toInt64) hx hb dX12_front_64 rfl ?_
      refine lv_lconst (v := 1) hx hb dX12_front_65 (by decide +kernel) ?_
      refine lv_lsub hx hb dX12_front_66 ?_
      obtain ⟨o_21, hqo_21, hfn⟩ := zb_s hfn
      refine zcSb (rest := []) (pc' := 70) (ws' := [(h0, .inr (12, zO a0 (zI (zI (zI (zI (zI b0 30 o_6.2.1) 33 o_6.2.2.1) 41 o_16.1) 42 o_16.2.1) 57 o_16.2.2.1) c0)), zVi (a0 17) k1 2 f1, zVi (a0 26) k2 28 f2, zVi (a0 27) k3 28 f3, zVi (a0 25) k4 28 f4, zVi (a0 29) k5 14 o_6.2.2.2, zVi (a0 12) k6 2 f6, zVi (a0 37) k7 14 f7, zVi (a0 39) k8 14 o_16.2.2.2.1, zVi (a0 19) k9 28 f9, zVi (a0 20) k10 28 f10, zVi (a0 21) k11 28 f11, zVl (a0 31) k12 14 o_16.2.2.2.2.1, zVl (a0 22) k13 28 f13, zVl (a0 23) k14 28 f14, zVl (a0 32) k15 14 o_16.2.2.2.2.2.1, zVi (a0 14) k16 8 f16, zVl (a0 40) k17 14 o_16.2.2.2.2.2.2.1, zVi (a0 15) k18 8 f18, zVi (a0 24) k19 2 f19, zVi (a0 16) k20 8 f20, zVi (a0 54) k21 1024 o_16.2.2.2.2.2.2.2.1, zVl (a0 55) k22 1024 o_16.2.2.2.2.2.2.2.2.1, zVi (a0 56) k23 1024 o_16.2.2.2.2.2.2.2.2.2]) hP hK hD hS hA ⟨hx, hb, hml, hown, hts⟩ (zf_X12_isIn l dC dI p2.toInt64 (0 : Int64) (o_16.2.2.1.toInt64 - (1 : Int64)) o_21 hqo_21 H.size) (va_cwS 3 hts gX12_front_X12_isIn rfl rfl rfl zhd_X12_isIn.2 ⟨Nat.le_of_ble_eq_true rfl, Nat.le_of_ble_eq_true rfl⟩) [] rfl (of_decide_eq_true rfl) [] rfl rfl hl.1 rfl (Nat.le_of_ble_eq_true rfl) dX12_front_67 ⟨Nat.le_of_ble_eq_true rfl, Nat.le_of_ble_eq_true rfl⟩ [] (of_decide_eq_true rfl) (of_decide_eq_true rfl) rfl rfl rfl (fun H locs hw_24n hP hD hS => ?_)
      refine lv_if_ne (tgt := 77) hx hb dX12_front_70 (of_decide_eq_true rfl) (fun c_25 => ?_) (fun c_25 => ?_)
      · have hfn := (if_neg c_25).symm.trans hfn
        refine lv_iload_n hx hb dX12_front_77 rfl (lv_at hl 3 rfl) ?_
        refine lv_if_ne (tgt := 91) hx hb dX12_front_78 (of_decide_eq_true rfl) (fun c_26 => ?_) (fun c_26 => ?_)
        · have hfn := (if_neg c_26).symm.trans hfn
          refine lv_iload_n hx hb dX12_front_91 rfl (lv_at hl 3 rfl) ?_
          refine lv_iconst (v := 1) hx hb dX12_front_92 zci_1 ?_
          refine lv_icmp_ne (tgt := 105) hx hb dX12_front_93 (of_decide_eq_true rfl) (fun c_27 => ?_) (fun c_27 => ?_)
          · have hfn := (if_neg c_27).symm.trans hfn
            refine lv_aload_n hx hb dX12_front_105 rfl (lv_at hl 0 rfl) ?_
            refine va_get (D := (dC, dI)) (ci := 12) (v := .ref (a0 56)) (C := RX12) (T := TX12) (N := 67) hx hb hts zn_X12_front_X12 hown hK hP 0 rfl rfl 56 (of_decide_eq_true rfl) (hts (.fieldLink RX12 183 "ShortEnoughModel" "frontMany" "[I") zw_X12_front_1308) (fun _ h9 => h9) rfl dX12_front_106 ?_
            refine lv_iload_n hx hb dX12_front_109 rfl (lv_at hl 2 rfl) ?_
            obtain ⟨h_28, hfn⟩ := zg_s hfn
            refine va_iald hx hb hK hP 23 22 rfl rfl h_28 dX12_front_110 ?_
            refine lv_i2l (v := (o_16.2.2.2.2.2.2.2.2.2 p2.toNatClampNeg).toInt64) hx hb dX12_front_111 rfl ?_
            have ho := Option.some.inj hfn
            subst ho
            exact zrl hx hb hr hK hP hD hS hQ rfl hlocks dX12_front_112
          have hfn := (if_pos c_27).symm.trans hfn
          refine lv_aload_n hx hb dX12_front_96 rfl (lv_at hl 0 rfl) ?_
          refine va_get (D := (dC, dI)) (ci := 12) (v := .ref (a0 55)) (C := RX12) (T := TX12) (N := 67) hx hb hts zn_X12_front_X12 hown hK hP 0 rfl rfl 55 (of_decide_eq_true rfl) (hts (.fieldLink RX12 180 "ShortEnoughModel" "frontError" "[J") zw_X12_front_1309) (fun _ h9 => h9) rfl dX12_front_97 ?_
          refine lv_iload_n hx hb dX12_front_100 rfl (lv_at hl 2 rfl) ?_
          obtain ⟨h_29, hfn⟩ := zg_s hfn
          refine va_lald hx hb hK hP 22 21 rfl rfl h_29 dX12_front_101 ?_
          refine lv_goto (tgt := 112) hx hb dX12_front_102 (of_decide_eq_true rfl) ?_
          have ho := Option.some.inj hfn
          subst ho
          exact zrl hx hb hr hK hP hD hS hQ rfl hlocks dX12_front_112
        have hfn := (if_pos c_26).symm.trans hfn
        refine lv_aload_n hx hb dX12_front_81 rfl (lv_at hl 0 rfl) ?_
        refine va_get (D := (dC, dI)) (ci := 12) (v := .ref (a0 54)) (C := RX12) (T := TX12) (N := 67) hx hb hts zn_X12_front_X12 hown hK hP 0 rfl rfl 54 (of_decide_eq_true rfl) (hts (.fieldLink RX12 177 "ShortEnoughModel" "frontCost" "[I") zw_X12_front_1310) (fun _ h9 => h9) rfl dX12_front_82 ?_
        refine lv_iload_n hx hb dX12_front_85 rfl (lv_at hl 2 rfl) ?_
        obtain ⟨h_30, hfn⟩ := zg_s hfn
        refine va_iald hx hb hK hP 21 20 rfl rfl h_30 dX12_front_86 ?_
        refine lv_i2l (v := (o_16.2.2.2.2.2.2.2.1 p2.toNatClampNeg).toInt64) hx hb dX12_front_87 rfl ?_
        refine lv_goto (tgt := 112) hx hb dX12_front_88 (of_decide_eq_true rfl) ?_
        have ho := Option.some.inj hfn
        subst ho
        exact zrl hx hb hr hK hP hD hS hQ rfl hlocks dX12_front_112
      have hfn := (if_pos c_25).symm.trans hfn
      refine lv_ldc2 (v := (-1000000000000000)) hx hb hown (hts (.constantLong RX12 381 (-1000000000000000)) zw_X12_front_1304) dX12_front_73 ?_
      have ho := Option.some.inj hfn
      subst ho
      exact zrl hx hb hr hK hP hD hS hQ rfl hlocks dX12_front_76
    have hfn := (if_pos c_20).symm.trans hfn
    refine lv_iload_n hx hb dX12_front_41 rfl (lv_at hl 3 rfl) ?_
    refine lv_if_ne (tgt := 53) hx hb dX12_front_42 (of_decide_eq_true rfl) (fun c_31 => ?_) (fun c_31 => ?_)
    · have hfn := (if_neg c_31).symm.trans hfn
      refine lv_ldc2 (v := (-1000000000000000)) hx hb hown (hts (.constantLong RX12 381 (-1000000000000000)) zw_X12_front_1304) dX12_front_53 ?_
      have ho := Option.some.inj hfn
      subst ho
      exact zrl hx hb hr hK hP hD hS hQ rfl hlocks dX12_front_56
    have hfn := (if_pos c_31).symm.trans hfn
    refine lv_aload_n hx hb dX12_front_45 rfl (lv_at hl 0 rfl) ?_
    refine va_get (D := (dC, dI)) (ci := 12) (v := .int o_16.2.2.1) (C := RX12) (T := TX12) (N := 67) hx hb hts zn_X12_front_X12 hown hK hP 0 rfl rfl 57 (of_decide_eq_true rfl) (hts (.fieldLink RX12 186 "ShortEnoughModel" "fronts" "I") zw_X12_front_1307) (fun _ h9 => h9) rfl dX12_front_46 ?_
    refine lv_i2l (v := o_16.2.2.1.toInt64) hx hb dX12_front_49 rfl ?_
    refine lv_goto (tgt := 56) hx hb dX12_front_50 (of_decide_eq_true rfl) ?_
    have ho := Option.some.inj hfn
    subst ho
    exact zrl hx hb hr hK hP hD hS hQ rfl hlocks dX12_front_56
  have hfn := (if_pos c_15).symm.trans hfn
  refine lv_ldc2 (v := (-1000000000000000)) hx hb hown (hts (.constantLong RX12 381 (-1000000000000000)) zw_X12_front_1304) dX12_front_27 ?_
  have ho := Option.some.inj hfn
  subst ho
  exact zrl hx hb hr hK hP hD hS hQ rfl hlocks dX12_front_30
theorem zw_X12_least_1311 : Cond.constantLong RX12 381 (-1000000000000000) ∈ wsX12_least := List.mem_of_getElem? (i := 1) (by decide +kernel)
theorem zn_X12_least_X12 : ∀ w ∈ wsX120, w ∈ wsX12_least := fun _ h => List.mem_cons_of_mem _ (List.mem_append_right _ h)
theorem zw_X12_least_1313 : Cond.fieldLink RX12 135 "ShortEnoughModel" "error" "[J" ∈ wsX12_least := List.mem_of_getElem? (i := 2) (by decide +kernel)
set_option maxHeartbeats 4000000 in
set_option maxRecDepth 100000 in
theorem zf_X12_least (l : Launch) (dC : Nat → ClassId) (dI : Nat → Nat → Nat) (h0 : Nat) (p1 : Int32) (p2 : Int32) (a0 : Nat → Nat) (b0 : Nat → Int32) (c0 : Nat → Int64) (k1 : Nat) (f1 : Nat → Int32) (k2 : Nat) (f2 : Nat → Int32) (k3 : Nat) (f3 : Nat → Int32) (k4 : Nat) (f4 : Nat → Int32) (k5 : Nat) (f5 : Nat → Int32) (k6 : Nat) (f6 : Nat → Int32) (k7 : Nat) (f7 : Nat → Int32) (k8 : Nat) (f8 : Nat → Int32) (k9 : Nat) (f9 : Nat → Int32) (k10 : Nat) (f10 : Nat → Int32) (k11 : Nat) (f11 : Nat → Int32) (k12 : Nat) (f12 : Nat → Int32) (k13 : Nat) (f13 : Nat → Int32) (k14 : Nat) (f14 : Nat → Int64) (k15 : Nat) (f15 : Nat → Int64) (k16 : Nat) (f16 : Nat → Int64) (k17 : Nat) (f17 : Nat → Int64) (k18 : Nat) (f18 : Nat → Int32) (k19 : Nat) (f19 : Nat → Int64) (k20 : Nat) (f20 : Nat → Int32) (o : Int64 × Int32 × Int32 × Int32 × Int32 × (Nat → Int32) × (Nat → Int32) × (Nat → Int64) × (Nat → Int64) × (Nat → Int64)) (hfn : fn_X12_least p1 p2 (b0 30) (b0 33) (c0 34) (b0 38) (b0 41) (b0 42) f1 f2 f3 f4 f5 f6 f7 f8 f9 f10 f11 f12 f13 f14 f15 f16 f17 f18 f19 f20 = some o) (sz : Nat) : zMl l yX12_least wsX12_least ({ frames := 5, cells := 0, slots := 0, locals := 134 }) (dC, dI) vwCl [.ref h0, .int p1, .int p2] [(h0, .inr (12, zO a0 b0 c0)), zVi (a0 17) k1 2 f1, zVi (a0 26) k2 28 f2, zVi (a0 27) k3 28 f3, zVi (a0 25) k4 28 f4, zVi (a0 29) k5 14 f5, zVi (a0 12) k6 2 f6, zVi (a0 37) k7 14 f7, zVi (a0 39) k8 14 f8, zVi (a0 24) k9 2 f9, zVi (a0 20) k10 28 f10, zVi (a0 21) k11 28 f11, zVi (a0 16) k12 8 f12, zVi (a0 19) k13 28 f13, zVl (a0 31) k14 14 f14, zVl (a0 22) k15 28 f15, zVl (a0 23) k16 28 f16, zVl (a0 32) k17 14 f17, zVi (a0 14) k18 8 f18, zVl (a0 40) k19 14 f19, zVi (a0 15) k20 8 f20] [(k1, .int), (k2, .int), (k3, .int), (k4, .int), (k5, .int), (k6, .int), (k7, .int), (k8, .int), (k9, .int), (k10, .int), (k11, .int), (k12, .int), (k13, .int), (k14, .long), (k15, .long), (k16, .long), (k17, .long), (k18, .int), (k19, .long), (k20, .int)] (fun r _ => r = o.1) [(h0, .inr (12, zO a0 (zI (zI (zI (zI b0 30 o.2.1) 33 o.2.2.1) 41 o.2.2.2.1) 42 o.2.2.2.2.1) c0)), zVi (a0 17) k1 2 f1, zVi (a0 26) k2 28 f2, zVi (a0 27) k3 28 f3, zVi (a0 25) k4 28 f4, zVi (a0 29) k5 14 o.2.2.2.2.2.1, zVi (a0 12) k6 2 f6, zVi (a0 37) k7 14 f7, zVi (a0 39) k8 14 o.2.2.2.2.2.2.1, zVi (a0 24) k9 2 f9, zVi (a0 20) k10 28 f10, zVi (a0 21) k11 28 f11, zVi (a0 16) k12 8 f12, zVi (a0 19) k13 28 f13, zVl (a0 31) k14 14 o.2.2.2.2.2.2.2.1, zVl (a0 22) k15 28 f15, zVl (a0 23) k16 28 f16, zVl (a0 32) k17 14 o.2.2.2.2.2.2.2.2.1, zVi (a0 14) k18 8 f18, zVl (a0 40) k19 14 o.2.2.2.2.2.2.2.2.2, zVi (a0 15) k20 8 f20] [(k1, .int), (k2, .int), (k3, .int), (k4, .int), (k5, .int), (k6, .int), (k7, .int), (k8, .int), (k9, .int), (k10, .int), (k11, .int), (k12, .int), (k13, .int), (k14, .long), (k15, .long), (k16, .long), (k17, .long), (k18, .int), (k19, .long), (k20, .int)] sz := by
  refine zgol (cc := cX12_least) (maxL := 7) (ret := (some .long)) (C0 := RX12) (lv0 := [(0, .ref h0), (1, .int p1), (2, .int p2)]) zpl_X12 rfl rfl rfl (Nat.le_of_ble_eq_true rfl) ?_
  intro p e s m below meth c A ls Q hx hb hr hts hown hlocks hml hP hK hD hA hS hl hQ
  unfold fn_X12_least at hfn
  refine lv_aload_n hx hb dX12_least_0 rfl (lv_at hl 0 rfl) ?_
  refine lv_iload_n hx hb dX12_least_1 rfl (lv_at hl 1 rfl) ?_
  obtain ⟨o_1, hqo_1, hfn⟩ := zb_s hfn
  refine zcVb (ci := 12) (rest := []) (pc' := 5) (ws' := [(h0, .inr (12, zO a0 b0 c0)), zVi (a0 17) k1 2 f1, zVi (a0 26) k2 28 f2, zVi (a0 27) k3 28 f3, zVi (a0 25) k4 28 f4, zVi (a0 29) k5 14 f5, zVi (a0 12) k6 2 f6, zVi (a0 37) k7 14 f7, zVi (a0 39) k8 14 f8, zVi (a0 24) k9 2 f9, zVi (a0 20) k10 28 f10, zVi (a0 21) k11 28 f11, zVi (a0 16) k12 8 f12, zVi (a0 19) k13 28 f13, zVl (a0 31) k14 14 f14, zVl (a0 22) k15 28 f15, zVl (a0 23) k16 28 f16, zVl (a0 32) k17 14 f17, zVi (a0 14) k18 8 f18, zVl (a0 40) k19 14 f19, zVi (a0 15) k20 8 f20]) hP hK hD hS hA ⟨hx, hb, hml, hown, hts⟩ (zf_X12_isAnswer l dC dI h0 p1 a0 b0 c0 k1 f1 k2 f2 o_1 hqo_1 s.heap.size) (cwV 1 hts gX12_least_X12_isAnswer rfl rfl rfl zhd_X12_isAnswer ⟨Nat.le_of_ble_eq_true rfl, Nat.le_of_ble_eq_true rfl⟩) [0, 1, 2] rfl (of_decide_eq_true rfl) [0, 1] rfl rfl rfl rfl hl.1 rfl (Nat.le_of_ble_eq_true rfl) dX12_least_2 ⟨Nat.le_of_ble_eq_true rfl, Nat.le_of_ble_eq_true rfl⟩ [some 0, some 1, some 2] (of_decide_eq_true rfl) (of_decide_eq_true rfl) rfl rfl rfl (fun H locs hw_4n hP hD hS => ?_)
  refine lv_if_eq (tgt := 15) hx hb dX12_least_5 (of_decide_eq_true rfl) (fun c_5 => ?_) (fun c_5 => ?_)
  · have hfn := (if_pos c_5).symm.trans hfn
    refine lv_ldc2 (v := (-1000000000000000)) hx hb hown (hts (.constantLong RX12 381 (-1000000000000000)) zw_X12_least_1311) dX12_least_15 ?_
    have ho := Option.some.inj hfn
    subst ho
    exact zrl hx hb hr hK hP hD hS hQ rfl hlocks dX12_least_18
  have hfn := (if_neg c_5).symm.trans hfn
  refine lv_aload_n hx hb dX12_least_8 rfl (lv_at hl 0 rfl) ?_
  obtain ⟨o_6, hqo_6, hfn⟩ := zb_s hfn
  refine zcVb (ci := 12) (rest := []) (pc' := 12) (ws' := [(h0, .inr (12, zO a0 (zI (zI b0 30 o_6.2.1) 33 o_6.2.2.1) c0)), zVi (a0 17) k1 2 f1, zVi (a0 26) k2 28 f2, zVi (a0 27) k3 28 f3, zVi (a0 25) k4 28 f4, zVi (a0 29) k5 14 o_6.2.2.2, zVi (a0 12) k6 2 f6, zVi (a0 37) k7 14 f7, zVi (a0 39) k8 14 f8, zVi (a0 24) k9 2 f9, zVi (a0 20) k10 28 f10, zVi (a0 21) k11 28 f11, zVi (a0 16) k12 8 f12, zVi (a0 19) k13 28 f13, zVl (a0 31) k14 14 f14, zVl (a0 22) k15 28 f15, zVl (a0 23) k16 28 f16, zVl (a0 32) k17 14 f17, zVi (a0 14) k18 8 f18, zVl (a0 40) k19 14 f19, zVi (a0 15) k20 8 f20]) hP hK hD hS hA ⟨hx, hb, hml, hown, hts⟩ (zf_X12_canSearch l dC dI h0 a0 b0 c0 k1 f1 k3 f3 k4 f4 k5 f5 o_6 hqo_6 H.size) (cwV 0 hts gX12_least_X12_canSearch rfl rfl rfl zhd_X12_canSearch ⟨Nat.le_of_ble_eq_true rfl, Nat.le_of_ble_eq_true rfl⟩) [0, 1, 3, 4, 5] rfl (of_decide_eq_true rfl) [0, 2, 3, 4] rfl rfl rfl rfl hl.1 rfl (Nat.le_of_ble_eq_true rfl) dX12_least_9 ⟨Nat.le_of_ble_eq_true rfl, Nat.le_of_ble_eq_true rfl⟩ [some 0, some 1, none, some 2, some 3, some 4] (of_decide_eq_true rfl) (of_decide_eq_true rfl) rfl rfl rfl (fun H locs hw_9n hP hD hS => ?_)
  refine lv_if_ne (tgt := 19) hx hb dX12_least_12 (of_decide_eq_true rfl) (fun c_10 => ?_) (fun c_10 => ?_)
  · have hfn := (if_neg c_10).symm.trans hfn
    refine lv_ldc2 (v := (-1000000000000000)) hx hb hown (hts (.constantLong RX12 381 (-1000000000000000)) zw_X12_least_1311) dX12_least_19 ?_
    refine lv_lstore_n (lv' := [(3, .long (-1000000000000000)), (0, .ref h0), (1, .int p1), (2, .int p2)]) hx hb dX12_least_22 rfl hl (of_decide_eq_true rfl) rfl (fun ls hl => ?_)
    refine lv_aload_n hx hb dX12_least_23 rfl (lv_at hl 1 rfl) ?_
    obtain ⟨o_11, hqo_11, hfn⟩ := zb_s hfn
    refine zcVi (ci := 12) (rest := []) (pc' := 27) (ws' := [(h0, .inr (12, zO a0 (zI (zI b0 30 o_6.2.1) 33 o_6.2.2.1) c0)), zVi (a0 17) k1 2 f1, zVi (a0 26) k2 28 f2, zVi (a0 27) k3 28 f3, zVi (a0 25) k4 28 f4, zVi (a0 29) k5 14 o_6.2.2.2, zVi (a0 12) k6 2 f6, zVi (a0 37) k7 14 f7, zVi (a0 39) k8 14 f8, zVi (a0 24) k9 2 f9, zVi (a0 20) k10 28 f10, zVi (a0 21) k11 28 f11, zVi (a0 16) k12 8 f12, zVi (a0 19) k13 28 f13, zVl (a0 31) k14 14 f14, zVl (a0 22) k15 28 f15, zVl (a0 23) k16 28 f16, zVl (a0 32) k17 14 f17, zVi (a0 14) k18 8 f18, zVl (a0 40) k19 14 f19, zVi (a0 15) k20 8 f20]) hP hK hD hS hA ⟨hx, hb, hml, hown, hts⟩ (zf_X12_allChoices l dC dI h0 a0 (zI (zI b0 30 o_6.2.1) 33 o_6.2.2.1) c0 k6 f6 o_11 hqo_11 H.size) (cwV 0 hts gX12_least_X12_allChoices rfl rfl rfl zhd_X12_allChoices ⟨Nat.le_of_ble_eq_true rfl, Nat.le_of_ble_eq_true rfl⟩) [0, 6] rfl (of_decide_eq_true rfl) [5] rfl rfl rfl rfl hl.1 rfl (Nat.le_of_ble_eq_true rfl) dX12_least_24 ⟨Nat.le_of_ble_eq_true rfl, Nat.le_of_ble_eq_true rfl⟩ [some 0, none, none, none, none, none, some 1] (of_decide_eq_true rfl) (of_decide_eq_true rfl) rfl rfl rfl (fun H locs hP hD hS => ?_)
    refine lv_istore (lv' := [(5, .int o_11), (3, .long (-1000000000000000)), (0, .ref h0), (1, .int p1), (2, .int p2)]) hx hb dX12_least_27 hl (of_decide_eq_true rfl) rfl (fun ls hl => ?_)
    refine lv_iconst (v := 0) hx hb dX12_least_29 zci_0 ?_
    refine lv_istore (lv' := [(6, .int 0), (5, .int o_11), (3, .long (-1000000000000000)), (0, .ref h0), (1, .int p1), (2, .int p2)]) hx hb dX12_least_30 hl (of_decide_eq_true rfl) rfl (fun ls hl => ?_)
    obtain ⟨bd_15, ebd_15, hfn⟩ := zl_g hfn
    have lp_15 : ∀ (n : Nat) (s_15 : Int64 × Int32 × Int32 × Int32 × (Nat → Int64) × (Nat → Int64) × (Nat → Int32) × (Nat → Int64)) (H : Heap) (locs : List Loc) (ls : Array Slot), zl bd_15 n s_15 = some o → va_P (dC, dI) vwCl [(h0, .inr (12, zO a0 (zI (zI (zI (zI b0 30 o_6.2.1) 33 o_6.2.2.1) 41 s_15.2.2.1) 42 s_15.2.2.2.1) c0)), zVi (a0 17) k1 2 f1, zVi (a0 26) k2 28 f2, zVi (a0 27) k3 28 f3, zVi (a0 25) k4 28 f4, zVi (a0 29) k5 14 o_6.2.2.2, zVi (a0 12) k6 2 f6, zVi (a0 37) k7 14 f7, zVi (a0 39) k8 14 s_15.2.2.2.2.2.2.1, zVi (a0 24) k9 2 f9, zVi (a0 20) k10 28 f10, zVi (a0 21) k11 28 f11, zVi (a0 16) k12 8 f12, zVi (a0 19) k13 28 f13, zVl (a0 31) k14 14 s_15.2.2.2.2.1, zVl (a0 22) k15 28 f15, zVl (a0 23) k16 28 f16, zVl (a0 32) k17 14 s_15.2.2.2.2.2.1, zVi (a0 14) k18 8 f18, zVl (a0 40) k19 14 s_15.2.2.2.2.2.2.2, zVi (a0 15) k20 8 f20] H → va_D A [(h0, .inr (12, zO a0 (zI (zI (zI (zI b0 30 o_6.2.1) 33 o_6.2.2.1) 41 s_15.2.2.1) 42 s_15.2.2.2.1) c0)), zVi (a0 17) k1 2 f1, zVi (a0 26) k2 28 f2, zVi (a0 27) k3 28 f3, zVi (a0 25) k4 28 f4, zVi (a0 29) k5 14 o_6.2.2.2, zVi (a0 12) k6 2 f6, zVi (a0 37) k7 14 f7, zVi (a0 39) k8 14 s_15.2.2.2.2.2.2.1, zVi (a0 24) k9 2 f9, zVi (a0 20) k10 28 f10, zVi (a0 21) k11 28 f11, zVi (a0 16) k12 8 f12, zVi (a0 19) k13 28 f13, zVl (a0 31) k14 14 s_15.2.2.2.2.1, zVl (a0 22) k15 28 f15, zVl (a0 23) k16 28 f16, zVl (a0 32) k17 14 s_15.2.2.2.2.2.1, zVi (a0 14) k18 8 f18, zVl (a0 40) k19 14 s_15.2.2.2.2.2.2.2, zVi (a0 15) k20 8 f20] → va_S A s.heap H locs → lv_has ls 7 [(6, .int s_15.2.1), (5, .int o_11), (3, .long s_15.1), (0, .ref h0), (1, .int p1), (2, .int p2)] → W p l e (headSpec wsX12_least ({ frames := 5, cells := 0, slots := 0, locals := 134 })).room s m ([.ref h0, .int p1, .int p2] : List Value).toArray below meth c H locs 0 0 Q (F0 m 32 ls []) := by
      intro n
      induction n with
      | zero => exact fun _ _ _ _ hfn => (zl_0 hfn).elim
      | succ n ih_15 =>
        intro s_15 H locs ls hfn hP hD hS hl
        have hfn := zl_s ebd_15 hfn
        refine lv_iload hx hb dX12_least_32 (lv_at hl 0 rfl) ?_
        refine lv_iload hx hb dX12_least_34 (lv_at hl 1 rfl) ?_
        refine lv_icmp_ge (tgt := 97) hx hb dX12_least_36 (of_decide_eq_true rfl) (fun c_16 => ?_) (fun c_16 => ?_)
        · have hfn := (if_pos c_16).symm.trans hfn
          refine lv_lload_n hx hb dX12_least_97 rfl (lv_at hl 2 rfl) ?_
          have ho := Option.some.inj hfn
          subst ho
          exact zrl hx hb hr hK hP hD hS hQ rfl hlocks dX12_least_98
        have hfn := (if_neg c_16).symm.trans hfn
        refine lv_aload_n hx hb dX12_least_39 rfl (lv_at hl 3 rfl) ?_
        refine lv_iload hx hb dX12_least_40 (lv_at hl 0 rfl) ?_
        obtain ⟨o_17, hqo_17, hfn⟩ := zb_s hfn
        refine zcVv (ci := 12) (rest := []) (pc' := 45) (ws' := [(h0, .inr (12, zO a0 (zI (zI (zI (zI b0 30 o_6.2.1) 33 o_6.2.2.1) 41 s_15.2.2.1) 42 s_15.2.2.2.1) c0)), zVi (a0 17) k1 2 f1, zVi (a0 26) k2 28 f2, zVi (a0 27) k3 28 f3, zVi (a0 25) k4 28 f4, zVi (a0 29) k5 14 o_6.2.2.2, zVi (a0 12) k6 2 f6, zVi (a0 37) k7 14 f7, zVi (a0 39) k8 14 o_17, zVi (a0 24) k9 2 f9, zVi (a0 20) k10 28 f10, zVi (a0 21) k11 28 f11, zVi (a0 16) k12 8 f12, zVi (a0 19) k13 28 f13, zVl (a0 31) k14 14 s_15.2.2.2.2.1, zVl (a0 22) k15 28 f15, zVl (a0 23) k16 28 f16, zVl (a0 32) k17 14 s_15.2.2.2.2.2.1, zVi (a0 14) k18 8 f18, zVl (a0 40) k19 14 s_15.2.2.2.2.2.2.2, zVi (a0 15) k20 8 f20]) hP hK hD hS hA ⟨hx, hb, hml, hown, hts⟩ (zf_X12_triesChoice l dC dI h0 s_15.2.1 a0 (zI (zI (zI (zI b0 30 o_6.2.1) 33 o_6.2.2.1) 41 s_15.2.2.1) 42 s_15.2.2.2.1) c0 k1 f1 k7 f7 k8 s_15.2.2.2.2.2.2.1 k5 o_6.2.2.2 k6 f6 k3 f3 o_17 hqo_17 H.size) (cwV 1 hts gX12_least_X12_triesChoice rfl rfl rfl zhd_X12_triesChoice ⟨Nat.le_of_ble_eq_true rfl, Nat.le_of_ble_eq_true rfl⟩) [0, 1, 7, 8, 5, 6, 3] rfl (of_decide_eq_true rfl) [0, 6, 7, 4, 5, 2] rfl rfl rfl rfl hl.1 rfl (Nat.le_of_ble_eq_true rfl) dX12_least_42 ⟨Nat.le_of_ble_eq_true rfl, Nat.le_of_ble_eq_true rfl⟩ [some 0, some 1, none, some 6, none, some 4, some 5, some 2, some 3] (of_decide_eq_true rfl) (of_decide_eq_true rfl) rfl rfl rfl (fun H locs hP hD hS => ?_)
        refine lv_aload_n hx hb dX12_least_45 rfl (lv_at hl 3 rfl) ?_
        obtain ⟨o_21, hqo_21, hfn⟩ := zb_s hfn
        refine zcVi (ci := 12) (rest := []) (pc' := 49) (ws' := [(h0, .inr (12, zO a0 (zI (zI (zI (zI b0 30 o_6.2.1) 33 o_6.2.2.1) 41 s_15.2.2.1) 42 s_15.2.2.2.1) c0)), zVi (a0 17) k1 2 f1, zVi (a0 26) k2 28 f2, zVi (a0 27) k3 28 f3, zVi (a0 25) k4 28 f4, zVi (a0 29) k5 14 o_6.2.2.2, zVi (a0 12) k6 2 f6, zVi (a0 37) k7 14 f7, zVi (a0 39) k8 14 o_17, zVi (a0 24) k9 2 f9, zVi (a0 20) k10 28 f10, zVi (a0 21) k11 28 f11, zVi (a0 16) k12 8 f12, zVi (a0 19) k13 28 f13, zVl (a0 31) k14 14 s_15.2.2.2.2.1, zVl (a0 22) k15 28 f15, zVl (a0 23) k16 28 f16, zVl (a0 32) k17 14 s_15.2.2.2.2.2.1, zVi (a0 14) k18 8 f18, zVl (a0 40) k19 14 s_15.2.2.2.2.2.2.2, zVi (a0 15) k20 8 f20]) hP hK hD hS hA ⟨hx, hb, hml, hown, hts⟩ (zf_X12_costTried l dC dI h0 a0 (zI (zI (zI (zI b0 30 o_6.2.1) 33 o_6.2.2.1) 41 s_15.2.2.1) 42 s_15.2.2.2.1) c0 k9 f9 k1 f1 k10 f10 k8 o_17 k11 f11 k12 f12 o_21 hqo_21 H.size) (cwV 0 hts gX12_least_X12_costTried rfl rfl rfl zhd_X12_costTried ⟨Nat.le_of_ble_eq_true rfl, Nat.le_of_ble_eq_true rfl⟩) [0, 9, 1, 10, 8, 11, 12] rfl (of_decide_eq_true rfl) [8, 0, 9, 7, 10, 11] rfl rfl rfl rfl hl.1 rfl (Nat.le_of_ble_eq_true rfl) dX12_least_46 ⟨Nat.le_of_ble_eq_true rfl, Nat.le_of_ble_eq_true rfl⟩ [some 0, some 2, none, none, none, none, none, none, some 4, some 1, some 3, some 5, some 6] (of_decide_eq_true rfl) (of_decide_eq_true rfl) rfl rfl rfl (fun H locs hP hD hS => ?_)
        refine lv_iload_n hx hb dX12_least_49 rfl (lv_at hl 5 rfl) ?_
        refine lv_icmp_gt (tgt := 91) hx hb dX12_least_50 (of_decide_eq_true rfl) (fun c_25 => ?_) (fun c_25 => ?_)
        · have hfn := (if_pos c_25).symm.trans hfn
          refine lv_iinc (v := (s_15.2.1 + 1)) (lv' := [(6, .int (s_15.2.1 + 1)), (5, .int o_11), (3, .long s_15.1), (0, .ref h0), (1, .int p1), (2, .int p2)]) hx hb dX12_least_91 hl (k := 0) rfl rfl (of_decide_eq_true rfl) rfl (fun ls hl => ?_)
          refine lv_goto (tgt := 32) hx hb dX12_least_94 (of_decide_eq_true rfl) ?_
          exact ih_15 (s_15.1, (s_15.2.1 + 1), s_15.2.2.1, s_15.2.2.2.1, s_15.2.2.2.2.1, s_15.2.2.2.2.2.1, o_17, s_15.2.2.2.2.2.2.2) H locs ls hfn hP hD hS (lv_sub hl [0, 1, 2, 3, 4, 5] rfl)
        have hfn := (if_neg c_25).symm.trans hfn
        refine lv_aload_n hx hb dX12_least_53 rfl (lv_at hl 3 rfl) ?_
        obtain ⟨o_26, hqo_26, hfn⟩ := zb_s hfn
        refine zcVb (ci := 12) (rest := []) (pc' := 57) (ws' := [(h0, .inr (12, zO a0 (zI (zI (zI (zI b0 30 o_6.2.1) 33 o_6.2.2.1) 41 o_26.2.1) 42 o_26.2.2.1) c0)), zVi (a0 17) k1 2 f1, zVi (a0 26) k2 28 f2, zVi (a0 27) k3 28 f3, zVi (a0 25) k4 28 f4, zVi (a0 29) k5 14 o_6.2.2.2, zVi (a0 12) k6 2 f6, zVi (a0 37) k7 14 f7, zVi (a0 39) k8 14 o_17, zVi (a0 24) k9 2 f9, zVi (a0 20) k10 28 f10, zVi (a0 21) k11 28 f11, zVi (a0 16) k12 8 f12, zVi (a0 19) k13 28 f13, zVl (a0 31) k14 14 o_26.2.2.2.1, zVl (a0 22) k15 28 f15, zVl (a0 23) k16 28 f16, zVl (a0 32) k17 14 o_26.2.2.2.2.1, zVi (a0 14) k18 8 f18, zVl (a0 40) k19 14 o_26.2.2.2.2.2, zVi (a0 15) k20 8 f20]) hP hK hD hS hA ⟨hx, hb, hml, hown, hts⟩ (zf_X12_passes l dC dI h0 a0 (zI (zI (zI (zI b0 30 o_6.2.1) 33 o_6.2.2.1) 41 s_15.2.2.1) 42 s_15.2.2.2.1) c0 k1 f1 k13 f13 k10 f10 k11 f11 k14 s_15.2.2.2.2.1 k15 f15 k16 f16 k17 s_15.2.2.2.2.2.1 k8 o_17 k18 f18 k19 s_15.2.2.2.2.2.2.2 k20 f20 k2 f2 o_26 hqo_26 H.size) (cwV 0 hts gX12_least_X12_passes rfl rfl rfl zhd_X12_passes ⟨Nat.le_of_ble_eq_true rfl, Nat.le_of_ble_eq_true rfl⟩) [0, 1, 13, 10, 11, 14, 15, 16, 17, 8, 18, 19, 20, 2] rfl (of_decide_eq_true rfl) [0, 12, 9, 10, 13, 14, 15, 16, 7, 17, 18, 19, 1] rfl rfl rfl rfl hl.1 rfl (Nat.le_of_ble_eq_true rfl) dX12_least_54 ⟨Nat.le_of_ble_eq_true rfl, Nat.le_of_ble_eq_true rfl⟩ [some 0, some 1, some 13, none, none, none, none, none, some 9, none, some 3, some 4, none, some 2, some 5, some 6, some 7, some 8, some 10, some 11, some 12] (of_decide_eq_true rfl) (of_decide_eq_true rfl) rfl rfl rfl (fun H locs hw_29n hP hD hS => ?_)
        refine lv_if_ne (tgt := 63) hx hb dX12_least_57 (of_decide_eq_true rfl) (fun c_30 => ?_) (fun c_30 => ?_)
        · have hfn := (if_neg c_30).symm.trans hfn
          refine lv_lload_n hx hb dX12_least_63 rfl (lv_at hl 2 rfl) ?_
          refine lv_ldc2 (v := (-1000000000000000)) hx hb hown (hts (.constantLong RX12 381 (-1000000000000000)) zw_X12_least_1311) dX12_least_64 ?_
          refine W.lcmp hx hb dX12_least_67 ?_
          refine lv_if_ne (tgt := 80) hx hb dX12_least_68 (of_decide_eq_true rfl) (fun c_31 => ?_) (fun c_31 => ?_)
          · have hfn := (if_neg c_31).symm.trans hfn
            refine lv_lload_n hx hb dX12_least_80 rfl (lv_at hl 2 rfl) ?_
            refine lv_aload_n hx hb dX12_least_81 rfl (lv_at hl 3 rfl) ?_
            refine va_get (D := (dC, dI)) (ci := 12) (v := .ref (a0 40)) (C := RX12) (T := TX12) (N := 67) hx hb hts zn_X12_least_X12 hown hK hP 0 rfl rfl 40 (of_decide_eq_true rfl) (hts (.fieldLink RX12 135 "ShortEnoughModel" "error" "[J") zw_X12_least_1313) (fun _ h9 => h9) rfl dX12_least_82 ?_
            refine lv_iload_n hx hb dX12_least_85 rfl (lv_at hl 4 rfl) ?_
            obtain ⟨h_32, hfn⟩ := zg_s hfn
            refine va_lald hx hb hK hP 19 18 rfl rfl h_32 dX12_least_86 ?_
            obtain ⟨o_33, hqo_33, hfn⟩ := zb_s hfn
            refine zcSl (rest := []) (pc' := 90) (ws' := [(h0, .inr (12, zO a0 (zI (zI (zI (zI b0 30 o_6.2.1) 33 o_6.2.2.1) 41 o_26.2.1) 42 o_26.2.2.1) c0)), zVi (a0 17) k1 2 f1, zVi (a0 26) k2 28 f2, zVi (a0 27) k3 28 f3, zVi (a0 25) k4 28 f4, zVi (a0 29) k5 14 o_6.2.2.2, zVi (a0 12) k6 2 f6, zVi (a0 37) k7 14 f7, zVi (a0 39) k8 14 o_17, zVi (a0 24) k9 2 f9, zVi (a0 20) k10 28 f10, zVi (a0 21) k11 28 f11, zVi (a0 16) k12 8 f12, zVi (a0 19) k13 28 f13, zVl (a0 31) k14 14 o_26.2.2.2.1, zVl (a0 22) k15 28 f15, zVl (a0 23) k16 28 f16, zVl (a0 32) k17 14 o_26.2.2.2.2.1, zVi (a0 14) k18 8 f18, zVl (a0 40) k19 14 o_26.2.2.2.2.2, zVi (a0 15) k20 8 f20]) hP hK hD hS hA ⟨hx, hb, hml, hown, hts⟩ (zf_X12_lesser l dC dI s_15.1 (o_26.2.2.2.2.2 p1.toNatClampNeg) o_33 hqo_33 H.size) (va_cwS 2 hts gX12_least_X12_lesser rfl rfl rfl zhd_X12_lesser.2 ⟨Nat.le_of_ble_eq_true rfl, Nat.le_of_ble_eq_true rfl⟩) [] rfl (of_decide_eq_true rfl) [] rfl rfl hl.1 rfl (Nat.le_of_ble_eq_true rfl) dX12_least_87 ⟨Nat.le_of_ble_eq_true rfl, Nat.le_of_ble_eq_true rfl⟩ [] (of_decide_eq_true rfl) (of_decide_eq_true rfl) rfl rfl rfl (fun H locs hP hD hS => ?_)
            refine lv_lstore_n (lv' := [(3, .long o_33), (6, .int s_15.2.1), (5, .int o_11), (0, .ref h0), (1, .int p1), (2, .int p2)]) hx hb dX12_least_90 rfl hl (of_decide_eq_true rfl) rfl (fun ls hl => ?_)
            refine lv_iinc (v := (s_15.2.1 + 1)) (lv' := [(6, .int (s_15.2.1 + 1)), (3, .long o_33), (5, .int o_11), (0, .ref h0), (1, .int p1), (2, .int p2)]) hx hb dX12_least_91 hl (k := 1) rfl rfl (of_decide_eq_true rfl) rfl (fun ls hl => ?_)
            refine lv_goto (tgt := 32) hx hb dX12_least_94 (of_decide_eq_true rfl) ?_
            exact ih_15 (o_33, (s_15.2.1 + 1), o_26.2.1, o_26.2.2.1, o_26.2.2.2.1, o_26.2.2.2.2.1, o_17, o_26.2.2.2.2.2) H locs ls hfn hP hD hS (lv_sub hl [0, 2, 1, 3, 4, 5] rfl)
          have hfn := (if_pos c_31).symm.trans hfn
          refine lv_aload_n hx hb dX12_least_71 rfl (lv_at hl 3 rfl) ?_
          refine va_get (D := (dC, dI)) (ci := 12) (v := .ref (a0 40)) (C := RX12) (T := TX12) (N := 67) hx hb hts zn_X12_least_X12 hown hK hP 0 rfl rfl 40 (of_decide_eq_true rfl) (hts (.fieldLink RX12 135 "ShortEnoughModel" "error" "[J") zw_X12_least_1313) (fun _ h9 => h9) rfl dX12_least_72 ?_
          refine lv_iload_n hx hb dX12_least_75 rfl (lv_at hl 4 rfl) ?_
          obtain ⟨h_37, hfn⟩ := zg_s hfn
          refine va_lald hx hb hK hP 19 18 rfl rfl h_37 dX12_least_76 ?_
          refine lv_goto (tgt := 90) hx hb dX12_least_77 (of_decide_eq_true rfl) ?_
          refine lv_lstore_n (lv' := [(3, .long (o_26.2.2.2.2.2 p1.toNatClampNeg)), (6, .int s_15.2.1), (5, .int o_11), (0, .ref h0), (1, .int p1), (2, .int p2)]) hx hb dX12_least_90 rfl hl (of_decide_eq_true rfl) rfl (fun ls hl => ?_)
          refine lv_iinc (v := (s_15.2.1 + 1)) (lv' := [(6, .int (s_15.2.1 + 1)), (3, .long (o_26.2.2.2.2.2 p1.toNatClampNeg)), (5, .int o_11), (0, .ref h0), (1, .int p1), (2, .int p2)]) hx hb dX12_least_91 hl (k := 1) rfl rfl (of_decide_eq_true rfl) rfl (fun ls hl => ?_)
          refine lv_goto (tgt := 32) hx hb dX12_least_94 (of_decide_eq_true rfl) ?_
          exact ih_15 ((o_26.2.2.2.2.2 p1.toNatClampNeg), (s_15.2.1 + 1), o_26.2.1, o_26.2.2.1, o_26.2.2.2.1, o_26.2.2.2.2.1, o_17, o_26.2.2.2.2.2) H locs ls hfn hP hD hS (lv_sub hl [0, 2, 1, 3, 4, 5] rfl)
        have hfn := (if_pos c_30).symm.trans hfn
        refine lv_goto (tgt := 91) hx hb dX12_least_60 (of_decide_eq_true rfl) ?_
        refine lv_iinc (v := (s_15.2.1 + 1)) (lv' := [(6, .int (s_15.2.1 + 1)), (5, .int o_11), (3, .long s_15.1), (0, .ref h0), (1, .int p1), (2, .int p2)]) hx hb dX12_least_91 hl (k := 0) rfl rfl (of_decide_eq_true rfl) rfl (fun ls hl => ?_)
        refine lv_goto (tgt := 32) hx hb dX12_least_94 (of_decide_eq_true rfl) ?_
        exact ih_15 (s_15.1, (s_15.2.1 + 1), o_26.2.1, o_26.2.2.1, o_26.2.2.2.1, o_26.2.2.2.2.1, o_17, o_26.2.2.2.2.2) H locs ls hfn hP hD hS (lv_sub hl [0, 1, 2, 3, 4, 5] rfl)
    exact lp_15 _ ((-1000000000000000), 0, (b0 41), (b0 42), f14, f17, f8, f19) H locs ls hfn hP hD hS (lv_sub hl [0, 1, 2, 3, 4, 5] rfl)
  have hfn := (if_pos c_10).symm.trans hfn
  refine lv_ldc2 (v := (-1000000000000000)) hx hb hown (hts (.constantLong RX12 381 (-1000000000000000)) zw_X12_least_1311) dX12_least_15 ?_
  have ho := Option.some.inj hfn
  subst ho
  exact zrl hx hb hr hK hP hD hS hQ rfl hlocks dX12_least_18
theorem zw_X12_byteOf_1314 : Cond.constantLong RX12 508 (255) ∈ wsX12_byteOf := List.mem_of_getElem? (i := 1) (by decide +kernel)
set_option maxHeartbeats 4000000 in
set_option maxRecDepth 100000 in
theorem zf_X12_byteOf (l : Launch) (dC : Nat → ClassId) (dI : Nat → Nat → Nat) (j0 : Int64) (p1 : Int32) (o : Int32) (hfn : fn_X12_byteOf j0 p1 = some o) (sz : Nat) : zMi l yX12_byteOf wsX12_byteOf ({ frames := 0, cells := 0, slots := 0, locals := 0 }) (dC, dI) vwCl [.long j0, .int p1] [] [] (fun r _ => r = o) [] [] sz := by
  refine zgoi (cc := cX12_byteOf) (maxL := 3) (ret := (some .int)) (C0 := RX12) (lv0 := [(0, .long j0), (2, .int p1)]) zpl_X12 rfl rfl rfl (Nat.le_of_ble_eq_true rfl) ?_
  intro p e s m below meth c A ls Q hx hb hr hts hown hlocks hml hP hK hD hA hS hl hQ
  unfold fn_X12_byteOf at hfn
  refine lv_lload_n hx hb dX12_byteOf_0 rfl (lv_at hl 0 rfl) ?_
  refine lv_bipush (v := 8) hx hb dX12_byteOf_1 zcb_8 ?_
  refine lv_bipush (v := 7) hx hb dX12_byteOf_3 zcb_7 ?_
  refine lv_iload_n hx hb dX12_byteOf_5 rfl (lv_at hl 1 rfl) ?_
  refine lv_isub hx hb dX12_byteOf_6 ?_
  refine lv_imul hx hb dX12_byteOf_7 ?_
  refine lv_lshr (v := (j0 >>> ((8 * (7 - p1)).toInt64 &&& 63))) hx hb dX12_byteOf_8 rfl ?_
  refine lv_ldc2 (v := 255) hx hb hown (hts (.constantLong RX12 508 (255)) zw_X12_byteOf_1314) dX12_byteOf_9 ?_
  refine lv_land hx hb dX12_byteOf_12 ?_
  refine lv_l2i (v := ((j0 >>> ((8 * (7 - p1)).toInt64 &&& 63)) &&& (255 : Int64)).toInt32) hx hb dX12_byteOf_13 rfl ?_
  have ho := Option.some.inj hfn
  subst ho
  exact zri hx hb hr hK hP hD hS hQ rfl hlocks dX12_byteOf_14
theorem zn_X12_certificate_X12 : ∀ w ∈ wsX120, w ∈ wsX12_certificate := fun _ h => List.mem_cons_of_mem _ (List.mem_append_right _ h)
theorem zw_X12_certificate_1316 : Cond.fieldLink RX12 62 "ShortEnoughModel" "numbers" "[I" ∈ wsX12_certificate := List.mem_of_getElem? (i := 1) (by decide +kernel)
theorem zw_X12_certificate_1317 : Cond.fieldLink RX12 135 "ShortEnoughModel" "error" "[J" ∈ wsX12_certificate := List.mem_of_getElem? (i := 5) (by decide +kernel)
theorem zw_X12_certificate_1318 : Cond.fieldLink RX12 109 "ShortEnoughModel" "greatest" "[J" ∈ wsX12_certificate := List.mem_of_getElem? (i := 4) (by decide +kernel)
theorem zw_X12_certificate_1319 : Cond.fieldLink RX12 106 "ShortEnoughModel" "least" "[J" ∈ wsX12_certificate := List.mem_of_getElem? (i := 3) (by decide +kernel)
theorem zw_X12_certificate_1320 : Cond.fieldLink RX12 125 "ShortEnoughModel" "hand" "[I" ∈ wsX12_certificate := List.mem_of_getElem? (i := 2) (by decide +kernel)
set_option maxHeartbeats 4000000 in
set_option maxRecDepth 100000 in
theorem zf_X12_certificate (l : Launch) (dC : Nat → ClassId) (dI : Nat → Nat → Nat) (h0 : Nat) (p1 : Int32) (a0 : Nat → Nat) (b0 : Nat → Int32) (c0 : Nat → Int64) (k1 : Nat) (f1 : Nat → Int32) (k2 : Nat) (f2 : Nat → Int32) (k3 : Nat) (f3 : Nat → Int32) (k4 : Nat) (f4 : Nat → Int32) (k5 : Nat) (f5 : Nat → Int32) (k6 : Nat) (f6 : Nat → Int32) (k7 : Nat) (f7 : Nat → Int64) (k8 : Nat) (f8 : Nat → Int64) (k9 : Nat) (f9 : Nat → Int64) (k10 : Nat) (f10 : Nat → Int64) (k11 : Nat) (f11 : Nat → Int32) (k12 : Nat) (f12 : Nat → Int64) (k13 : Nat) (f13 : Nat → Int32) (k14 : Nat) (f14 : Nat → Int32) (o : Int32 × Int32 × Int32 × Int32 × (Nat → Int32) × (Nat → Int64) × (Nat → Int64) × (Nat → Int64)) (hfn : fn_X12_certificate p1 (c0 34) (b0 38) (b0 41) (b0 42) f1 f2 f3 f4 f5 f6 f7 f8 f9 f10 f11 f12 f13 f14 = some o) (sz : Nat) : zMi l yX12_certificate wsX12_certificate ({ frames := 6, cells := 0, slots := 0, locals := 154 }) (dC, dI) vwCl [.ref h0, .int p1] [(h0, .inr (12, zO a0 b0 c0)), zVi (a0 17) k1 2 f1, zVi (a0 37) k2 14 f2, zVi (a0 39) k3 14 f3, zVi (a0 19) k4 28 f4, zVi (a0 20) k5 28 f5, zVi (a0 21) k6 28 f6, zVl (a0 31) k7 14 f7, zVl (a0 22) k8 28 f8, zVl (a0 23) k9 28 f9, zVl (a0 32) k10 14 f10, zVi (a0 14) k11 8 f11, zVl (a0 40) k12 14 f12, zVi (a0 15) k13 8 f13, zVi (a0 26) k14 28 f14] [(k1, .int), (k2, .int), (k3, .int), (k4, .int), (k5, .int), (k6, .int), (k7, .long), (k8, .long), (k9, .long), (k10, .long), (k11, .int), (k12, .long), (k13, .int), (k14, .int)] (fun r _ => r = o.1) [(h0, .inr (12, zO a0 (zI (zI (zI b0 33 o.2.1) 41 o.2.2.1) 42 o.2.2.2.1) c0)), zVi (a0 17) k1 2 f1, zVi (a0 37) k2 14 f2, zVi (a0 39) k3 14 o.2.2.2.2.1, zVi (a0 19) k4 28 f4, zVi (a0 20) k5 28 f5, zVi (a0 21) k6 28 f6, zVl (a0 31) k7 14 o.2.2.2.2.2.1, zVl (a0 22) k8 28 f8, zVl (a0 23) k9 28 f9, zVl (a0 32) k10 14 o.2.2.2.2.2.2.1, zVi (a0 14) k11 8 f11, zVl (a0 40) k12 14 o.2.2.2.2.2.2.2, zVi (a0 15) k13 8 f13, zVi (a0 26) k14 28 f14] [(k1, .int), (k2, .int), (k3, .int), (k4, .int), (k5, .int), (k6, .int), (k7, .long), (k8, .long), (k9, .long), (k10, .long), (k11, .int), (k12, .long), (k13, .int), (k14, .int)] sz := by
  refine zgoi (cc := cX12_certificate) (maxL := 4) (ret := (some .int)) (C0 := RX12) (lv0 := [(0, .ref h0), (1, .int p1)]) zpl_X12 rfl rfl rfl (Nat.le_of_ble_eq_true rfl) ?_
  intro p e s m below meth c A ls Q hx hb hr hts hown hlocks hml hP hK hD hA hS hl hQ
  unfold fn_X12_certificate at hfn
  refine lv_aload_n hx hb dX12_certificate_0 rfl (lv_at hl 0 rfl) ?_
  obtain ⟨o_1, hqo_1, hfn⟩ := zb_s hfn
  refine zcVb (ci := 12) (rest := []) (pc' := 4) (ws' := [(h0, .inr (12, zO a0 (zI (zI (zI b0 33 o_1.2.1) 41 o_1.2.2.1) 42 o_1.2.2.2.1) c0)), zVi (a0 17) k1 2 f1, zVi (a0 37) k2 14 f2, zVi (a0 39) k3 14 o_1.2.2.2.2.1, zVi (a0 19) k4 28 f4, zVi (a0 20) k5 28 f5, zVi (a0 21) k6 28 f6, zVl (a0 31) k7 14 o_1.2.2.2.2.2.1, zVl (a0 22) k8 28 f8, zVl (a0 23) k9 28 f9, zVl (a0 32) k10 14 o_1.2.2.2.2.2.2.1, zVi (a0 14) k11 8 f11, zVl (a0 40) k12 14 o_1.2.2.2.2.2.2.2, zVi (a0 15) k13 8 f13, zVi (a0 26) k14 28 f14]) hP hK hD hS hA ⟨hx, hb, hml, hown, hts⟩ (zf_X12_handPasses l dC dI h0 a0 b0 c0 k1 f1 k2 f2 k3 f3 k4 f4 k5 f5 k6 f6 k7 f7 k8 f8 k9 f9 k10 f10 k11 f11 k12 f12 k13 f13 k14 f14 o_1 hqo_1 s.heap.size) (cwV 0 hts gX12_certificate_X12_handPasses rfl rfl rfl zhd_X12_handPasses ⟨Nat.le_of_ble_eq_true rfl, Nat.le_of_ble_eq_true rfl⟩) [0, 1, 2, 3, 4, 5, 6, 7, 8, 9, 10, 11, 12, 13, 14] rfl (of_decide_eq_true rfl) [0, 1, 2, 3, 4, 5, 6, 7, 8, 9, 10, 11, 12, 13] rfl rfl rfl rfl hl.1 rfl (Nat.le_of_ble_eq_true rfl) dX12_certificate_1 ⟨Nat.le_of_ble_eq_true rfl, Nat.le_of_ble_eq_true rfl⟩ [some 0, some 1, some 2, some 3, some 4, some 5, some 6, some 7, some 8, some 9, some 10, some 11, some 12, some 13, some 14] (of_decide_eq_true rfl) (of_decide_eq_true rfl) rfl rfl rfl (fun H locs hw_4n hP hD hS => ?_)
  refine lv_if_eq (tgt := 28) hx hb dX12_certificate_4 (of_decide_eq_true rfl) (fun c_5 => ?_) (fun c_5 => ?_)
  · have hfn := (if_pos c_5).symm.trans hfn
    refine lv_iconst (v := (-1)) hx hb dX12_certificate_28 zci_m1 ?_
    have ho := Option.some.inj hfn
    subst ho
    exact zri hx hb hr hK hP hD hS hQ rfl hlocks dX12_certificate_29
  have hfn := (if_neg c_5).symm.trans hfn
  refine lv_iload_n hx hb dX12_certificate_7 rfl (lv_at hl 1 rfl) ?_
  refine lv_i2l (v := p1.toInt64) hx hb dX12_certificate_8 rfl ?_
  refine lv_lconst (v := 0) hx hb dX12_certificate_9 (by decide +kernel) ?_
  refine lv_bipush (v := 25) hx hb dX12_certificate_10 zcb_25 ?_
  refine lv_aload_n hx hb dX12_certificate_12 rfl (lv_at hl 0 rfl) ?_
  refine va_get (D := (dC, dI)) (ci := 12) (v := .ref (a0 17)) (C := RX12) (T := TX12) (N := 67) hx hb hts zn_X12_certificate_X12 hown hK hP 0 rfl rfl 17 (of_decide_eq_true rfl) (hts (.fieldLink RX12 62 "ShortEnoughModel" "numbers" "[I") zw_X12_certificate_1316) (fun _ h9 => h9) rfl dX12_certificate_13 ?_
  refine lv_iconst (v := 0) hx hb dX12_certificate_16 zci_0 ?_
  refine va_iald hx hb hK hP 1 0 rfl rfl (zv_in (by decide +kernel)) dX12_certificate_17 ?_
  refine lv_imul hx hb dX12_certificate_18 ?_
  refine lv_i2l (v := (25 * (f1 (0 : Int32).toNatClampNeg)).toInt64) hx hb dX12_certificate_19 rfl ?_
  refine lv_lconst (v := 1) hx hb dX12_certificate_20 (by decide +kernel) ?_
  refine lv_lsub hx hb dX12_certificate_21 ?_
  obtain ⟨o_6, hqo_6, hfn⟩ := zb_s hfn
  refine zcSb (rest := []) (pc' := 25) (ws' := [(h0, .inr (12, zO a0 (zI (zI (zI b0 33 o_1.2.1) 41 o_1.2.2.1) 42 o_1.2.2.2.1) c0)), zVi (a0 17) k1 2 f1, zVi (a0 37) k2 14 f2, zVi (a0 39) k3 14 o_1.2.2.2.2.1, zVi (a0 19) k4 28 f4, zVi (a0 20) k5 28 f5, zVi (a0 21) k6 28 f6, zVl (a0 31) k7 14 o_1.2.2.2.2.2.1, zVl (a0 22) k8 28 f8, zVl (a0 23) k9 28 f9, zVl (a0 32) k10 14 o_1.2.2.2.2.2.2.1, zVi (a0 14) k11 8 f11, zVl (a0 40) k12 14 o_1.2.2.2.2.2.2.2, zVi (a0 15) k13 8 f13, zVi (a0 26) k14 28 f14]) hP hK hD hS hA ⟨hx, hb, hml, hown, hts⟩ (zf_X12_isIn l dC dI p1.toInt64 (0 : Int64) ((25 * (f1 (0 : Int32).toNatClampNeg)).toInt64 - (1 : Int64)) o_6 hqo_6 H.size) (va_cwS 3 hts gX12_certificate_X12_isIn rfl rfl rfl zhd_X12_isIn.2 ⟨Nat.le_of_ble_eq_true rfl, Nat.le_of_ble_eq_true rfl⟩) [] rfl (of_decide_eq_true rfl) [] rfl rfl hl.1 rfl (Nat.le_of_ble_eq_true rfl) dX12_certificate_22 ⟨Nat.le_of_ble_eq_true rfl, Nat.le_of_ble_eq_true rfl⟩ [] (of_decide_eq_true rfl) (of_decide_eq_true rfl) rfl rfl rfl (fun H locs hw_9n hP hD hS => ?_)
  refine lv_if_ne (tgt := 30) hx hb dX12_certificate_25 (of_decide_eq_true rfl) (fun c_10 => ?_) (fun c_10 => ?_)
  · have hfn := (if_neg c_10).symm.trans hfn
    refine lv_iload_n hx hb dX12_certificate_30 rfl (lv_at hl 1 rfl) ?_
    refine lv_bipush (v := 25) hx hb dX12_certificate_31 zcb_25 ?_
    refine lv_idiv hx hb dX12_certificate_33 (by decide +kernel) ?_
    refine lv_istore_n (lv' := [(2, .int (p1 / 25)), (0, .ref h0), (1, .int p1)]) hx hb dX12_certificate_34 rfl hl (of_decide_eq_true rfl) rfl (fun ls hl => ?_)
    refine lv_iload_n hx hb dX12_certificate_35 rfl (lv_at hl 2 rfl) ?_
    refine lv_bipush (v := 25) hx hb dX12_certificate_36 zcb_25 ?_
    refine lv_irem hx hb dX12_certificate_38 (by decide +kernel) ?_
    refine lv_istore_n (lv' := [(3, .int (p1 - p1 / 25 * 25)), (2, .int (p1 / 25)), (0, .ref h0), (1, .int p1)]) hx hb dX12_certificate_39 rfl hl (of_decide_eq_true rfl) rfl (fun ls hl => ?_)
    refine lv_iload_n hx hb dX12_certificate_40 rfl (lv_at hl 0 rfl) ?_
    refine lv_if_ne (tgt := 51) hx hb dX12_certificate_41 (of_decide_eq_true rfl) (fun c_11 => ?_) (fun c_11 => ?_)
    · have hfn := (if_neg c_11).symm.trans hfn
      refine lv_iload_n hx hb dX12_certificate_51 rfl (lv_at hl 0 rfl) ?_
      refine lv_bipush (v := 9) hx hb dX12_certificate_52 zcb_9 ?_
      refine lv_icmp_ge (tgt := 72) hx hb dX12_certificate_54 (of_decide_eq_true rfl) (fun c_12 => ?_) (fun c_12 => ?_)
      · have hfn := (if_pos c_12).symm.trans hfn
        refine lv_iload_n hx hb dX12_certificate_72 rfl (lv_at hl 0 rfl) ?_
        refine lv_bipush (v := 17) hx hb dX12_certificate_73 zcb_17 ?_
        refine lv_icmp_ge (tgt := 94) hx hb dX12_certificate_75 (of_decide_eq_true rfl) (fun c_13 => ?_) (fun c_13 => ?_)
        · have hfn := (if_pos c_13).symm.trans hfn
          refine lv_aload_n hx hb dX12_certificate_94 rfl (lv_at hl 2 rfl) ?_
          refine va_get (D := (dC, dI)) (ci := 12) (v := .ref (a0 40)) (C := RX12) (T := TX12) (N := 67) hx hb hts zn_X12_certificate_X12 hown hK hP 0 rfl rfl 40 (of_decide_eq_true rfl) (hts (.fieldLink RX12 135 "ShortEnoughModel" "error" "[J") zw_X12_certificate_1317) (fun _ h9 => h9) rfl dX12_certificate_95 ?_
          refine lv_iload_n hx hb dX12_certificate_98 rfl (lv_at hl 1 rfl) ?_
          obtain ⟨h_14, hfn⟩ := zg_s hfn
          refine va_lald hx hb hK hP 12 11 rfl rfl h_14 dX12_certificate_99 ?_
          refine lv_iload_n hx hb dX12_certificate_100 rfl (lv_at hl 0 rfl) ?_
          refine lv_bipush (v := 17) hx hb dX12_certificate_101 zcb_17 ?_
          refine lv_isub hx hb dX12_certificate_103 ?_
          obtain ⟨o_15, hqo_15, hfn⟩ := zb_s hfn
          refine zcSi (rest := []) (pc' := 107) (ws' := [(h0, .inr (12, zO a0 (zI (zI (zI b0 33 o_1.2.1) 41 o_1.2.2.1) 42 o_1.2.2.2.1) c0)), zVi (a0 17) k1 2 f1, zVi (a0 37) k2 14 f2, zVi (a0 39) k3 14 o_1.2.2.2.2.1, zVi (a0 19) k4 28 f4, zVi (a0 20) k5 28 f5, zVi (a0 21) k6 28 f6, zVl (a0 31) k7 14 o_1.2.2.2.2.2.1, zVl (a0 22) k8 28 f8, zVl (a0 23) k9 28 f9, zVl (a0 32) k10 14 o_1.2.2.2.2.2.2.1, zVi (a0 14) k11 8 f11, zVl (a0 40) k12 14 o_1.2.2.2.2.2.2.2, zVi (a0 15) k13 8 f13, zVi (a0 26) k14 28 f14]) hP hK hD hS hA ⟨hx, hb, hml, hown, hts⟩ (zf_X12_byteOf l dC dI (o_1.2.2.2.2.2.2.2 (p1 / 25).toNatClampNeg) ((p1 - p1 / 25 * 25) - 17) o_15 hqo_15 H.size) (va_cwS 2 hts gX12_certificate_X12_byteOf rfl rfl rfl zhd_X12_byteOf.2 ⟨Nat.le_of_ble_eq_true rfl, Nat.le_of_ble_eq_true rfl⟩) [] rfl (of_decide_eq_true rfl) [] rfl rfl hl.1 rfl (Nat.le_of_ble_eq_true rfl) dX12_certificate_104 ⟨Nat.le_of_ble_eq_true rfl, Nat.le_of_ble_eq_true rfl⟩ [] (of_decide_eq_true rfl) (of_decide_eq_true rfl) rfl rfl rfl (fun H locs hP hD hS => ?_)
          have ho := Option.some.inj hfn
          subst ho
          exact zri hx hb hr hK hP hD hS hQ rfl hlocks dX12_certificate_107
        have hfn := (if_neg c_13).symm.trans hfn
        refine lv_aload_n hx hb dX12_certificate_78 rfl (lv_at hl 2 rfl) ?_
        refine va_get (D := (dC, dI)) (ci := 12) (v := .ref (a0 32)) (C := RX12) (T := TX12) (N := 67) hx hb hts zn_X12_certificate_X12 hown hK hP 0 rfl rfl 32 (of_decide_eq_true rfl) (hts (.fieldLink RX12 109 "ShortEnoughModel" "greatest" "[J") zw_X12_certificate_1318) (fun _ h9 => h9) rfl dX12_certificate_79 ?_
        refine lv_iload_n hx hb dX12_certificate_82 rfl (lv_at hl 1 rfl) ?_
        obtain ⟨h_19, hfn⟩ := zg_s hfn
        refine va_lald hx hb hK hP 10 9 rfl rfl h_19 dX12_certificate_83 ?_
        refine lv_iload_n hx hb dX12_certificate_84 rfl (lv_at hl 0 rfl) ?_
        refine lv_bipush (v := 9) hx hb dX12_certificate_85 zcb_9 ?_
        refine lv_isub hx hb dX12_certificate_87 ?_
        obtain ⟨o_20, hqo_20, hfn⟩ := zb_s hfn
        refine zcSi (rest := []) (pc' := 91) (ws' := [(h0, .inr (12, zO a0 (zI (zI (zI b0 33 o_1.2.1) 41 o_1.2.2.1) 42 o_1.2.2.2.1) c0)), zVi (a0 17) k1 2 f1, zVi (a0 37) k2 14 f2, zVi (a0 39) k3 14 o_1.2.2.2.2.1, zVi (a0 19) k4 28 f4, zVi (a0 20) k5 28 f5, zVi (a0 21) k6 28 f6, zVl (a0 31) k7 14 o_1.2.2.2.2.2.1, zVl (a0 22) k8 28 f8, zVl (a0 23) k9 28 f9, zVl (a0 32) k10 14 o_1.2.2.2.2.2.2.1, zVi (a0 14) k11 8 f11, zVl (a0 40) k12 14 o_1.2.2.2.2.2.2.2, zVi (a0 15) k13 8 f13, zVi (a0 26) k14 28 f14]) hP hK hD hS hA ⟨hx, hb, hml, hown, hts⟩ (zf_X12_byteOf l dC dI (o_1.2.2.2.2.2.2.1 (p1 / 25).toNatClampNeg) ((p1 - p1 / 25 * 25) - 9) o_20 hqo_20 H.size) (va_cwS 2 hts gX12_certificate_X12_byteOf rfl rfl rfl zhd_X12_byteOf.2 ⟨Nat.le_of_ble_eq_true rfl, Nat.le_of_ble_eq_true rfl⟩) [] rfl (of_decide_eq_true rfl) [] rfl rfl hl.1 rfl (Nat.le_of_ble_eq_true rfl) dX12_certificate_88 ⟨Nat.le_of_ble_eq_true rfl, Nat.le_of_ble_eq_true rfl⟩ [] (of_decide_eq_true rfl) (of_decide_eq_true rfl) rfl rfl rfl (fun H locs hP hD hS => ?_)
        refine lv_goto (tgt := 107) hx hb dX12_certificate_91 (of_decide_eq_true rfl) ?_
        have ho := Option.some.inj hfn
        subst ho
        exact zri hx hb hr hK hP hD hS hQ rfl hlocks dX12_certificate_107
      have hfn := (if_neg c_12).symm.trans hfn
      refine lv_aload_n hx hb dX12_certificate_57 rfl (lv_at hl 2 rfl) ?_
      refine va_get (D := (dC, dI)) (ci := 12) (v := .ref (a0 31)) (C := RX12) (T := TX12) (N := 67) hx hb hts zn_X12_certificate_X12 hown hK hP 0 rfl rfl 31 (of_decide_eq_true rfl) (hts (.fieldLink RX12 106 "ShortEnoughModel" "least" "[J") zw_X12_certificate_1319) (fun _ h9 => h9) rfl dX12_certificate_58 ?_
      refine lv_iload_n hx hb dX12_certificate_61 rfl (lv_at hl 1 rfl) ?_
      obtain ⟨h_24, hfn⟩ := zg_s hfn
      refine va_lald hx hb hK hP 7 6 rfl rfl h_24 dX12_certificate_62 ?_
      refine lv_iload_n hx hb dX12_certificate_63 rfl (lv_at hl 0 rfl) ?_
      refine lv_iconst (v := 1) hx hb dX12_certificate_64 zci_1 ?_
      refine lv_isub hx hb dX12_certificate_65 ?_
      obtain ⟨o_25, hqo_25, hfn⟩ := zb_s hfn
      refine zcSi (rest := []) (pc' := 69) (ws' := [(h0, .inr (12, zO a0 (zI (zI (zI b0 33 o_1.2.1) 41 o_1.2.2.1) 42 o_1.2.2.2.1) c0)), zVi (a0 17) k1 2 f1, zVi (a0 37) k2 14 f2, zVi (a0 39) k3 14 o_1.2.2.2.2.1, zVi (a0 19) k4 28 f4, zVi (a0 20) k5 28 f5, zVi (a0 21) k6 28 f6, zVl (a0 31) k7 14 o_1.2.2.2.2.2.1, zVl (a0 22) k8 28 f8, zVl (a0 23) k9 28 f9, zVl (a0 32) k10 14 o_1.2.2.2.2.2.2.1, zVi (a0 14) k11 8 f11, zVl (a0 40) k12 14 o_1.2.2.2.2.2.2.2, zVi (a0 15) k13 8 f13, zVi (a0 26) k14 28 f14]) hP hK hD hS hA ⟨hx, hb, hml, hown, hts⟩ (zf_X12_byteOf l dC dI (o_1.2.2.2.2.2.1 (p1 / 25).toNatClampNeg) ((p1 - p1 / 25 * 25) - 1) o_25 hqo_25 H.size) (va_cwS 2 hts gX12_certificate_X12_byteOf rfl rfl rfl zhd_X12_byteOf.2 ⟨Nat.le_of_ble_eq_true rfl, Nat.le_of_ble_eq_true rfl⟩) [] rfl (of_decide_eq_true rfl) [] rfl rfl hl.1 rfl (Nat.le_of_ble_eq_true rfl) dX12_certificate_66 ⟨Nat.le_of_ble_eq_true rfl, Nat.le_of_ble_eq_true rfl⟩ [] (of_decide_eq_true rfl) (of_decide_eq_true rfl) rfl rfl rfl (fun H locs hP hD hS => ?_)
      refine lv_goto (tgt := 107) hx hb dX12_certificate_69 (of_decide_eq_true rfl) ?_
      have ho := Option.some.inj hfn
      subst ho
      exact zri hx hb hr hK hP hD hS hQ rfl hlocks dX12_certificate_107
    have hfn := (if_pos c_11).symm.trans hfn
    refine lv_aload_n hx hb dX12_certificate_44 rfl (lv_at hl 2 rfl) ?_
    refine va_get (D := (dC, dI)) (ci := 12) (v := .ref (a0 37)) (C := RX12) (T := TX12) (N := 67) hx hb hts zn_X12_certificate_X12 hown hK hP 0 rfl rfl 37 (of_decide_eq_true rfl) (hts (.fieldLink RX12 125 "ShortEnoughModel" "hand" "[I") zw_X12_certificate_1320) (fun _ h9 => h9) rfl dX12_certificate_45 ?_
    refine lv_iload_n hx hb dX12_certificate_48 rfl (lv_at hl 1 rfl) ?_
    obtain ⟨h_29, hfn⟩ := zg_s hfn
    refine va_iald hx hb hK hP 2 1 rfl rfl h_29 dX12_certificate_49 ?_
    have ho := Option.some.inj hfn
    subst ho
    exact zri hx hb hr hK hP hD hS hQ rfl hlocks dX12_certificate_50
  have hfn := (if_pos c_10).symm.trans hfn
  refine lv_iconst (v := (-1)) hx hb dX12_certificate_28 zci_m1 ?_
  have ho := Option.some.inj hfn
  subst ho
  exact zri hx hb hr hK hP hD hS hQ rfl hlocks dX12_certificate_29
theorem zn_X12_readsLong_X12 : ∀ w ∈ wsX120, w ∈ wsX12_readsLong := fun _ h => List.mem_cons_of_mem _ (List.mem_append_right _ h)
theorem zw_X12_readsLong_1322 : Cond.fieldLink RX12 7 "ShortEnoughModel" "tape" "[I" ∈ wsX12_readsLong := List.mem_of_getElem? (i := 1) (by decide +kernel)
theorem zw_X12_readsLong_1323 : Cond.constantLong RX12 514 (1000000000000) ∈ wsX12_readsLong := List.mem_of_getElem? (i := 2) (by decide +kernel)
theorem zw_X12_readsLong_1324 : Cond.constantLong RX12 516 (-1000000000000) ∈ wsX12_readsLong := List.mem_of_getElem? (i := 3) (by decide +kernel)
set_option maxHeartbeats 4000000 in
set_option maxRecDepth 100000 in
theorem zf_X12_readsLong (l : Launch) (dC : Nat → ClassId) (dI : Nat → Nat → Nat) (h0 : Nat) (p1 : Int32) (a0 : Nat → Nat) (b0 : Nat → Int32) (c0 : Nat → Int64) (k1 : Nat) (f1 : Nat → Int32) (o : Int64) (hfn : fn_X12_readsLong p1 f1 = some o) (sz : Nat) : zMl l yX12_readsLong wsX12_readsLong ({ frames := 0, cells := 0, slots := 0, locals := 0 }) (dC, dI) vwCl [.ref h0, .int p1] [(h0, .inr (12, zO a0 b0 c0)), zVi (a0 0) k1 1200 f1] [(k1, .int)] (fun r _ => r = o) [(h0, .inr (12, zO a0 b0 c0)), zVi (a0 0) k1 1200 f1] [(k1, .int)] sz := by
  refine zgol (cc := cX12_readsLong) (maxL := 5) (ret := (some .long)) (C0 := RX12) (lv0 := [(0, .ref h0), (1, .int p1)]) zpl_X12 rfl rfl rfl (Nat.le_of_ble_eq_true rfl) ?_
  intro p e s m below meth c A ls Q hx hb hr hts hown hlocks hml hP hK hD hA hS hl hQ
  unfold fn_X12_readsLong at hfn
  refine lv_lconst (v := 0) hx hb dX12_readsLong_0 (by decide +kernel) ?_
  refine lv_lstore_n (lv' := [(2, .long 0), (0, .ref h0), (1, .int p1)]) hx hb dX12_readsLong_1 rfl hl (of_decide_eq_true rfl) rfl (fun ls hl => ?_)
  refine lv_iconst (v := 0) hx hb dX12_readsLong_2 zci_0 ?_
  refine lv_istore (lv' := [(4, .int 0), (2, .long 0), (0, .ref h0), (1, .int p1)]) hx hb dX12_readsLong_3 hl (of_decide_eq_true rfl) rfl (fun ls hl => ?_)
  obtain ⟨bd_1, ebd_1, hfn⟩ := zl_g hfn
  have lp_1 : ∀ (n : Nat) (s_1 : Int64 × Int32) (H : Heap) (locs : List Loc) (ls : Array Slot), zl bd_1 n s_1 = some o → va_P (dC, dI) vwCl [(h0, .inr (12, zO a0 b0 c0)), zVi (a0 0) k1 1200 f1] H → va_D A [(h0, .inr (12, zO a0 b0 c0)), zVi (a0 0) k1 1200 f1] → va_S A s.heap H locs → lv_has ls 5 [(4, .int s_1.2), (2, .long s_1.1), (0, .ref h0), (1, .int p1)] → W p l e (headSpec wsX12_readsLong ({ frames := 0, cells := 0, slots := 0, locals := 0 })).room s m ([.ref h0, .int p1] : List Value).toArray below meth c H locs 0 0 Q (F0 m 5 ls []) := by
    intro n
    induction n with
    | zero => exact fun _ _ _ _ hfn => (zl_0 hfn).elim
    | succ n ih_1 =>
      intro s_1 H locs ls hfn hP hD hS hl
      have hfn := zl_s ebd_1 hfn
      refine lv_iload hx hb dX12_readsLong_5 (lv_at hl 0 rfl) ?_
      refine lv_bipush (v := 8) hx hb dX12_readsLong_7 zcb_8 ?_
      refine lv_icmp_ge (tgt := 34) hx hb dX12_readsLong_9 (of_decide_eq_true rfl) (fun c_2 => ?_) (fun c_2 => ?_)
      · have hfn := (if_pos c_2).symm.trans hfn
        refine lv_lload_n hx hb dX12_readsLong_34 rfl (lv_at hl 1 rfl) ?_
        refine lv_ldc2 (v := 1000000000000) hx hb hown (hts (.constantLong RX12 514 (1000000000000)) zw_X12_readsLong_1323) dX12_readsLong_35 ?_
        refine W.lcmp hx hb dX12_readsLong_38 ?_
        refine lv_if_le (tgt := 48) hx hb dX12_readsLong_39 (of_decide_eq_true rfl) (fun c_3 => ?_) (fun c_3 => ?_)
        · have hfn := (if_pos c_3).symm.trans hfn
          refine lv_lload_n hx hb dX12_readsLong_48 rfl (lv_at hl 1 rfl) ?_
          refine lv_ldc2 (v := (-1000000000000)) hx hb hown (hts (.constantLong RX12 516 (-1000000000000)) zw_X12_readsLong_1324) dX12_readsLong_49 ?_
          refine W.lcmp hx hb dX12_readsLong_52 ?_
          refine lv_if_ge (tgt := 62) hx hb dX12_readsLong_53 (of_decide_eq_true rfl) (fun c_4 => ?_) (fun c_4 => ?_)
          · have hfn := (if_pos c_4).symm.trans hfn
            refine lv_lload_n hx hb dX12_readsLong_62 rfl (lv_at hl 1 rfl) ?_
            have ho := Option.some.inj hfn
            subst ho
            exact zrl hx hb hr hK hP hD hS hQ rfl hlocks dX12_readsLong_63
          have hfn := (if_neg c_4).symm.trans hfn
          refine lv_ldc2 (v := (-1000000000000)) hx hb hown (hts (.constantLong RX12 516 (-1000000000000)) zw_X12_readsLong_1324) dX12_readsLong_56 ?_
          refine lv_goto (tgt := 63) hx hb dX12_readsLong_59 (of_decide_eq_true rfl) ?_
          have ho := Option.some.inj hfn
          subst ho
          exact zrl hx hb hr hK hP hD hS hQ rfl hlocks dX12_readsLong_63
        have hfn := (if_neg c_3).symm.trans hfn
        refine lv_ldc2 (v := 1000000000000) hx hb hown (hts (.constantLong RX12 514 (1000000000000)) zw_X12_readsLong_1323) dX12_readsLong_42 ?_
        refine lv_goto (tgt := 63) hx hb dX12_readsLong_45 (of_decide_eq_true rfl) ?_
        have ho := Option.some.inj hfn
        subst ho
        exact zrl hx hb hr hK hP hD hS hQ rfl hlocks dX12_readsLong_63
      have hfn := (if_neg c_2).symm.trans hfn
      refine lv_lload_n hx hb dX12_readsLong_12 rfl (lv_at hl 1 rfl) ?_
      refine lv_bipush (v := 8) hx hb dX12_readsLong_13 zcb_8 ?_
      refine lv_lshl (v := (s_1.1 <<< ((8 : Int32).toInt64 &&& 63))) hx hb dX12_readsLong_15 rfl ?_
      refine lv_aload_n hx hb dX12_readsLong_16 rfl (lv_at hl 2 rfl) ?_
      refine va_get (D := (dC, dI)) (ci := 12) (v := .ref (a0 0)) (C := RX12) (T := TX12) (N := 67) hx hb hts zn_X12_readsLong_X12 hown hK hP 0 rfl rfl 0 (of_decide_eq_true rfl) (hts (.fieldLink RX12 7 "ShortEnoughModel" "tape" "[I") zw_X12_readsLong_1322) (fun _ h9 => h9) rfl dX12_readsLong_17 ?_
      refine lv_iload_n hx hb dX12_readsLong_20 rfl (lv_at hl 3 rfl) ?_
      refine lv_iload hx hb dX12_readsLong_21 (lv_at hl 0 rfl) ?_
      refine lv_iadd hx hb dX12_readsLong_23 ?_
      obtain ⟨h_5, hfn⟩ := zg_s hfn
      refine va_iald hx hb hK hP 1 0 rfl rfl h_5 dX12_readsLong_24 ?_
      refine lv_i2l (v := (f1 (p1 + s_1.2).toNatClampNeg).toInt64) hx hb dX12_readsLong_25 rfl ?_
      refine lv_lor hx hb dX12_readsLong_26 ?_
      refine lv_topl (fun x_6 ex_6 => ?_)
      have hfn := zn_s hfn ex_6
      refine lv_lstore_n (lv' := [(2, .long x_6), (4, .int s_1.2), (0, .ref h0), (1, .int p1)]) hx hb dX12_readsLong_27 rfl hl (of_decide_eq_true rfl) rfl (fun ls hl => ?_)
      refine lv_iinc (v := (s_1.2 + 1)) (lv' := [(4, .int (s_1.2 + 1)), (2, .long x_6), (0, .ref h0), (1, .int p1)]) hx hb dX12_readsLong_28 hl (k := 1) rfl rfl (of_decide_eq_true rfl) rfl (fun ls hl => ?_)
      refine lv_goto (tgt := 5) hx hb dX12_readsLong_31 (of_decide_eq_true rfl) ?_
      exact ih_1 (x_6, (s_1.2 + 1)) H locs ls hfn hP hD hS (lv_sub hl [0, 1, 2, 3] rfl)
  exact lp_1 _ (0, 0) s.heap [] ls hfn hP hD hS (lv_sub hl [0, 1, 2, 3] rfl)
theorem zn_X12_isFormatSaid_X12 : ∀ w ∈ wsX120, w ∈ wsX12_isFormatSaid := fun _ h => List.mem_cons_of_mem _ (List.mem_append_right _ h)
theorem zw_X12_isFormatSaid_1326 : Cond.fieldLink RX12 195 "ShortEnoughModel" "saysFormat" "[I" ∈ wsX12_isFormatSaid := List.mem_of_getElem? (i := 1) (by decide +kernel)
theorem zw_X12_isFormatSaid_1327 : Cond.fieldLink RX12 62 "ShortEnoughModel" "numbers" "[I" ∈ wsX12_isFormatSaid := List.mem_of_getElem? (i := 2) (by decide +kernel)
theorem zw_X12_isFormatSaid_1328 : Cond.fieldLink RX12 93 "ShortEnoughModel" "groupOf" "[I" ∈ wsX12_isFormatSaid := List.mem_of_getElem? (i := 3) (by decide +kernel)
theorem zw_X12_isFormatSaid_1329 : Cond.fieldLink RX12 87 "ShortEnoughModel" "fixedAs" "[I" ∈ wsX12_isFormatSaid := List.mem_of_getElem? (i := 4) (by decide +kernel)
set_option maxHeartbeats 4000000 in
set_option maxRecDepth 100000 in
theorem zf_X12_isFormatSaid (l : Launch) (dC : Nat → ClassId) (dI : Nat → Nat → Nat) (h0 : Nat) (p1 : Int32) (a0 : Nat → Nat) (b0 : Nat → Int32) (c0 : Nat → Int64) (k1 : Nat) (f1 : Nat → Int32) (k2 : Nat) (f2 : Nat → Int32) (k3 : Nat) (f3 : Nat → Int32) (k4 : Nat) (f4 : Nat → Int32) (k5 : Nat) (f5 : Nat → Int32) (o : Int32) (hfn : fn_X12_isFormatSaid p1 f1 f2 f3 f4 f5 = some o) (sz : Nat) : zMi l yX12_isFormatSaid wsX12_isFormatSaid ({ frames := 2, cells := 0, slots := 0, locals := 46 }) (dC, dI) vwCl [.ref h0, .int p1] [(h0, .inr (12, zO a0 b0 c0)), zVi (a0 60) k1 14 f1, zVi (a0 12) k2 2 f2, zVi (a0 17) k3 2 f3, zVi (a0 27) k4 28 f4, zVi (a0 25) k5 28 f5] [(k1, .int), (k2, .int), (k3, .int), (k4, .int), (k5, .int)] (fun r _ => r = o ∧ narrow .boolean (.int o) = .int o) [(h0, .inr (12, zO a0 b0 c0)), zVi (a0 60) k1 14 f1, zVi (a0 12) k2 2 f2, zVi (a0 17) k3 2 f3, zVi (a0 27) k4 28 f4, zVi (a0 25) k5 28 f5] [(k1, .int), (k2, .int), (k3, .int), (k4, .int), (k5, .int)] sz := by
  refine zgoi (cc := cX12_isFormatSaid) (maxL := 3) (ret := (some .boolean)) (C0 := RX12) (lv0 := [(0, .ref h0), (1, .int p1)]) zpl_X12 rfl rfl rfl (Nat.le_of_ble_eq_true rfl) ?_
  intro p e s m below meth c A ls Q hx hb hr hts hown hlocks hml hP hK hD hA hS hl hQ
  unfold fn_X12_isFormatSaid at hfn
  refine lv_aload_n hx hb dX12_isFormatSaid_0 rfl (lv_at hl 0 rfl) ?_
  refine lv_aload_n hx hb dX12_isFormatSaid_1 rfl (lv_at hl 0 rfl) ?_
  refine va_get (D := (dC, dI)) (ci := 12) (v := .ref (a0 60)) (C := RX12) (T := TX12) (N := 67) hx hb hts zn_X12_isFormatSaid_X12 hown hK hP 0 rfl rfl 60 (of_decide_eq_true rfl) (hts (.fieldLink RX12 195 "ShortEnoughModel" "saysFormat" "[I") zw_X12_isFormatSaid_1326) (fun _ h9 => h9) rfl dX12_isFormatSaid_2 ?_
  refine lv_iload_n hx hb dX12_isFormatSaid_5 rfl (lv_at hl 1 rfl) ?_
  obtain ⟨h_1, hfn⟩ := zg_s hfn
  refine va_iald hx hb hK hP 1 0 rfl rfl h_1 dX12_isFormatSaid_6 ?_
  obtain ⟨o_2, hqo_2, hfn⟩ := zb_s hfn
  refine zcVb (ci := 12) (rest := []) (pc' := 10) (ws' := [(h0, .inr (12, zO a0 b0 c0)), zVi (a0 60) k1 14 f1, zVi (a0 12) k2 2 f2, zVi (a0 17) k3 2 f3, zVi (a0 27) k4 28 f4, zVi (a0 25) k5 28 f5]) hP hK hD hS hA ⟨hx, hb, hml, hown, hts⟩ (zf_X12_isFormat l dC dI h0 (f1 p1.toNatClampNeg) a0 b0 c0 k2 f2 o_2 hqo_2 s.heap.size) (cwV 1 hts gX12_isFormatSaid_X12_isFormat rfl rfl rfl zhd_X12_isFormat ⟨Nat.le_of_ble_eq_true rfl, Nat.le_of_ble_eq_true rfl⟩) [0, 2] rfl (of_decide_eq_true rfl) [1] rfl rfl rfl rfl hl.1 rfl (Nat.le_of_ble_eq_true rfl) dX12_isFormatSaid_7 ⟨Nat.le_of_ble_eq_true rfl, Nat.le_of_ble_eq_true rfl⟩ [some 0, none, some 1] (of_decide_eq_true rfl) (of_decide_eq_true rfl) rfl rfl rfl (fun H locs hw_5n hP hD hS => ?_)
  refine lv_if_ne (tgt := 15) hx hb dX12_isFormatSaid_10 (of_decide_eq_true rfl) (fun c_6 => ?_) (fun c_6 => ?_)
  · have hfn := (if_neg c_6).symm.trans hfn
    refine lv_iconst (v := 0) hx hb dX12_isFormatSaid_15 zci_0 ?_
    refine lv_istore_n (lv' := [(2, .int 0), (0, .ref h0), (1, .int p1)]) hx hb dX12_isFormatSaid_16 rfl hl (of_decide_eq_true rfl) rfl (fun ls hl => ?_)
    obtain ⟨bd_7, ebd_7, hfn⟩ := zl_g hfn
    have lp_7 : ∀ (n : Nat) (s_7 : Int32) (H : Heap) (locs : List Loc) (ls : Array Slot), zl bd_7 n s_7 = some o → va_P (dC, dI) vwCl [(h0, .inr (12, zO a0 b0 c0)), zVi (a0 60) k1 14 f1, zVi (a0 12) k2 2 f2, zVi (a0 17) k3 2 f3, zVi (a0 27) k4 28 f4, zVi (a0 25) k5 28 f5] H → va_D A [(h0, .inr (12, zO a0 b0 c0)), zVi (a0 60) k1 14 f1, zVi (a0 12) k2 2 f2, zVi (a0 17) k3 2 f3, zVi (a0 27) k4 28 f4, zVi (a0 25) k5 28 f5] → va_S A s.heap H locs → lv_has ls 3 [(2, .int s_7), (0, .ref h0), (1, .int p1)] → W p l e (headSpec wsX12_isFormatSaid ({ frames := 2, cells := 0, slots := 0, locals := 46 })).room s m ([.ref h0, .int p1] : List Value).toArray below meth c H locs 0 0 Q (F0 m 17 ls []) := by
      intro n
      induction n with
      | zero => exact fun _ _ _ _ hfn => (zl_0 hfn).elim
      | succ n ih_7 =>
        intro s_7 H locs ls hfn hP hD hS hl
        have hfn := zl_s ebd_7 hfn
        refine lv_iload_n hx hb dX12_isFormatSaid_17 rfl (lv_at hl 0 rfl) ?_
        refine lv_aload_n hx hb dX12_isFormatSaid_18 rfl (lv_at hl 1 rfl) ?_
        refine va_get (D := (dC, dI)) (ci := 12) (v := .ref (a0 17)) (C := RX12) (T := TX12) (N := 67) hx hb hts zn_X12_isFormatSaid_X12 hown hK hP 0 rfl rfl 17 (of_decide_eq_true rfl) (hts (.fieldLink RX12 62 "ShortEnoughModel" "numbers" "[I") zw_X12_isFormatSaid_1327) (fun _ h9 => h9) rfl dX12_isFormatSaid_19 ?_
        refine lv_iconst (v := 0) hx hb dX12_isFormatSaid_22 zci_0 ?_
        refine va_iald hx hb hK hP 3 2 rfl rfl (zv_in (by decide +kernel)) dX12_isFormatSaid_23 ?_
        refine lv_icmp_ge (tgt := 98) hx hb dX12_isFormatSaid_24 (of_decide_eq_true rfl) (fun c_8 => ?_) (fun c_8 => ?_)
        · have hfn := (if_pos c_8).symm.trans hfn
          refine lv_iconst (v := 1) hx hb dX12_isFormatSaid_98 zci_1 ?_
          have ho := Option.some.inj hfn
          subst ho
          exact zrz hx hb hr rfl hK hP hD hS hQ ⟨rfl, zB1⟩ hlocks dX12_isFormatSaid_99
        have hfn := (if_neg c_8).symm.trans hfn
        refine lv_aload_n hx hb dX12_isFormatSaid_27 rfl (lv_at hl 1 rfl) ?_
        refine va_get (D := (dC, dI)) (ci := 12) (v := .ref (a0 27)) (C := RX12) (T := TX12) (N := 67) hx hb hts zn_X12_isFormatSaid_X12 hown hK hP 0 rfl rfl 27 (of_decide_eq_true rfl) (hts (.fieldLink RX12 93 "ShortEnoughModel" "groupOf" "[I") zw_X12_isFormatSaid_1328) (fun _ h9 => h9) rfl dX12_isFormatSaid_28 ?_
        refine lv_iload_n hx hb dX12_isFormatSaid_31 rfl (lv_at hl 0 rfl) ?_
        obtain ⟨h_9, hfn⟩ := zg_s hfn
        refine va_iald hx hb hK hP 4 3 rfl rfl h_9 dX12_isFormatSaid_32 ?_
        refine lv_aload_n hx hb dX12_isFormatSaid_33 rfl (lv_at hl 1 rfl) ?_
        refine va_get (D := (dC, dI)) (ci := 12) (v := .ref (a0 27)) (C := RX12) (T := TX12) (N := 67) hx hb hts zn_X12_isFormatSaid_X12 hown hK hP 0 rfl rfl 27 (of_decide_eq_true rfl) (hts (.fieldLink RX12 93 "ShortEnoughModel" "groupOf" "[I") zw_X12_isFormatSaid_1328) (fun _ h9 => h9) rfl dX12_isFormatSaid_34 ?_
        refine lv_iload_n hx hb dX12_isFormatSaid_37 rfl (lv_at hl 2 rfl) ?_
        obtain ⟨h_10, hfn⟩ := zg_s hfn
        refine va_iald hx hb hK hP 4 3 rfl rfl h_10 dX12_isFormatSaid_38 ?_
        refine lv_icmp_eq (tgt := 45) hx hb dX12_isFormatSaid_39 (of_decide_eq_true rfl) (fun c_11 => ?_) (fun c_11 => ?_)
        · have hfn := (if_pos c_11).symm.trans hfn
          refine lv_iload_n hx hb dX12_isFormatSaid_45 rfl (lv_at hl 0 rfl) ?_
          refine lv_iload_n hx hb dX12_isFormatSaid_46 rfl (lv_at hl 2 rfl) ?_
          obtain ⟨j_12, ej_12, hfn⟩ := zj_g hfn
          have jp_12 : ∀ (s_12 : Unit) (H : Heap) (locs : List Loc) (ls : Array Slot), j_12 s_12 = some o → va_P (dC, dI) vwCl [(h0, .inr (12, zO a0 b0 c0)), zVi (a0 60) k1 14 f1, zVi (a0 12) k2 2 f2, zVi (a0 17) k3 2 f3, zVi (a0 27) k4 28 f4, zVi (a0 25) k5 28 f5] H → va_D A [(h0, .inr (12, zO a0 b0 c0)), zVi (a0 60) k1 14 f1, zVi (a0 12) k2 2 f2, zVi (a0 17) k3 2 f3, zVi (a0 27) k4 28 f4, zVi (a0 25) k5 28 f5] → va_S A s.heap H locs → lv_has ls 3 [(2, .int s_7), (0, .ref h0), (1, .int p1)] → W p l e (headSpec wsX12_isFormatSaid ({ frames := 2, cells := 0, slots := 0, locals := 46 })).room s m ([.ref h0, .int p1] : List Value).toArray below meth c H locs 0 0 Q (F0 m 65 ls []) := by
            intro s_12 H locs ls hfn hP hD hS hl
            have hfn := zj_s ej_12 hfn
            refine lv_aload_n hx hb dX12_isFormatSaid_65 rfl (lv_at hl 1 rfl) ?_
            refine va_get (D := (dC, dI)) (ci := 12) (v := .ref (a0 25)) (C := RX12) (T := TX12) (N := 67) hx hb hts zn_X12_isFormatSaid_X12 hown hK hP 0 rfl rfl 25 (of_decide_eq_true rfl) (hts (.fieldLink RX12 87 "ShortEnoughModel" "fixedAs" "[I") zw_X12_isFormatSaid_1329) (fun _ h9 => h9) rfl dX12_isFormatSaid_66 ?_
            refine lv_iload_n hx hb dX12_isFormatSaid_69 rfl (lv_at hl 0 rfl) ?_
            obtain ⟨h_13, hfn⟩ := zg_s hfn
            refine va_iald hx hb hK hP 5 4 rfl rfl h_13 dX12_isFormatSaid_70 ?_
            refine lv_iconst (v := (-1)) hx hb dX12_isFormatSaid_71 zci_m1 ?_
            refine lv_icmp_eq (tgt := 92) hx hb dX12_isFormatSaid_72 (of_decide_eq_true rfl) (fun c_14 => ?_) (fun c_14 => ?_)
            · have hfn := (if_pos c_14).symm.trans hfn
              refine lv_iinc (v := (s_7 + 1)) (lv' := [(2, .int (s_7 + 1)), (0, .ref h0), (1, .int p1)]) hx hb dX12_isFormatSaid_92 hl (k := 0) rfl rfl (of_decide_eq_true rfl) rfl (fun ls hl => ?_)
              refine lv_goto (tgt := 17) hx hb dX12_isFormatSaid_95 (of_decide_eq_true rfl) ?_
              exact ih_7 (s_7 + 1) H locs ls hfn hP hD hS (lv_sub hl [0, 1, 2] rfl)
            have hfn := (if_neg c_14).symm.trans hfn
            refine lv_aload_n hx hb dX12_isFormatSaid_75 rfl (lv_at hl 1 rfl) ?_
            refine va_get (D := (dC, dI)) (ci := 12) (v := .ref (a0 25)) (C := RX12) (T := TX12) (N := 67) hx hb hts zn_X12_isFormatSaid_X12 hown hK hP 0 rfl rfl 25 (of_decide_eq_true rfl) (hts (.fieldLink RX12 87 "ShortEnoughModel" "fixedAs" "[I") zw_X12_isFormatSaid_1329) (fun _ h9 => h9) rfl dX12_isFormatSaid_76 ?_
            refine lv_iload_n hx hb dX12_isFormatSaid_79 rfl (lv_at hl 0 rfl) ?_
            refine va_iald hx hb hK hP 5 4 rfl rfl h_13 dX12_isFormatSaid_80 ?_
            refine lv_aload_n hx hb dX12_isFormatSaid_81 rfl (lv_at hl 1 rfl) ?_
            refine va_get (D := (dC, dI)) (ci := 12) (v := .ref (a0 60)) (C := RX12) (T := TX12) (N := 67) hx hb hts zn_X12_isFormatSaid_X12 hown hK hP 0 rfl rfl 60 (of_decide_eq_true rfl) (hts (.fieldLink RX12 195 "ShortEnoughModel" "saysFormat" "[I") zw_X12_isFormatSaid_1326) (fun _ h9 => h9) rfl dX12_isFormatSaid_82 ?_
            refine lv_iload_n hx hb dX12_isFormatSaid_85 rfl (lv_at hl 2 rfl) ?_
            obtain ⟨h_15, hfn⟩ := zg_s hfn
            refine va_iald hx hb hK hP 1 0 rfl rfl h_15 dX12_isFormatSaid_86 ?_
            refine lv_icmp_eq (tgt := 92) hx hb dX12_isFormatSaid_87 (of_decide_eq_true rfl) (fun c_16 => ?_) (fun c_16 => ?_)
            · have hfn := (if_pos c_16).symm.trans hfn
              refine lv_iinc (v := (s_7 + 1)) (lv' := [(2, .int (s_7 + 1)), (0, .ref h0), (1, .int p1)]) hx hb dX12_isFormatSaid_92 hl (k := 0) rfl rfl (of_decide_eq_true rfl) rfl (fun ls hl => ?_)
              refine lv_goto (tgt := 17) hx hb dX12_isFormatSaid_95 (of_decide_eq_true rfl) ?_
              exact ih_7 (s_7 + 1) H locs ls hfn hP hD hS (lv_sub hl [0, 1, 2] rfl)
            have hfn := (if_neg c_16).symm.trans hfn
            refine lv_iconst (v := 0) hx hb dX12_isFormatSaid_90 zci_0 ?_
            have ho := Option.some.inj hfn
            subst ho
            exact zrz hx hb hr rfl hK hP hD hS hQ ⟨rfl, zB0⟩ hlocks dX12_isFormatSaid_91
          refine lv_icmp_ge (tgt := 65) hx hb dX12_isFormatSaid_47 (of_decide_eq_true rfl) (fun c_17 => ?_) (fun c_17 => ?_)
          · have hfn := (if_pos c_17).symm.trans hfn
            exact jp_12 () H locs ls hfn hP hD hS (lv_sub hl [0, 1, 2] rfl)
          have hfn := (if_neg c_17).symm.trans hfn
          refine lv_aload_n hx hb dX12_isFormatSaid_50 rfl (lv_at hl 1 rfl) ?_
          refine va_get (D := (dC, dI)) (ci := 12) (v := .ref (a0 60)) (C := RX12) (T := TX12) (N := 67) hx hb hts zn_X12_isFormatSaid_X12 hown hK hP 0 rfl rfl 60 (of_decide_eq_true rfl) (hts (.fieldLink RX12 195 "ShortEnoughModel" "saysFormat" "[I") zw_X12_isFormatSaid_1326) (fun _ h9 => h9) rfl dX12_isFormatSaid_51 ?_
          refine lv_iload_n hx hb dX12_isFormatSaid_54 rfl (lv_at hl 0 rfl) ?_
          obtain ⟨h_18, hfn⟩ := zg_s hfn
          refine va_iald hx hb hK hP 1 0 rfl rfl h_18 dX12_isFormatSaid_55 ?_
          refine lv_aload_n hx hb dX12_isFormatSaid_56 rfl (lv_at hl 1 rfl) ?_
          refine va_get (D := (dC, dI)) (ci := 12) (v := .ref (a0 60)) (C := RX12) (T := TX12) (N := 67) hx hb hts zn_X12_isFormatSaid_X12 hown hK hP 0 rfl rfl 60 (of_decide_eq_true rfl) (hts (.fieldLink RX12 195 "ShortEnoughModel" "saysFormat" "[I") zw_X12_isFormatSaid_1326) (fun _ h9 => h9) rfl dX12_isFormatSaid_57 ?_
          refine lv_iload_n hx hb dX12_isFormatSaid_60 rfl (lv_at hl 2 rfl) ?_
          obtain ⟨h_19, hfn⟩ := zg_s hfn
          refine va_iald hx hb hK hP 1 0 rfl rfl h_19 dX12_isFormatSaid_61 ?_
          refine lv_icmp_ne (tgt := 90) hx hb dX12_isFormatSaid_62 (of_decide_eq_true rfl) (fun c_20 => ?_) (fun c_20 => ?_)
          · have hfn := (if_neg c_20).symm.trans hfn
            refine lv_iconst (v := 0) hx hb dX12_isFormatSaid_90 zci_0 ?_
            have ho := Option.some.inj hfn
            subst ho
            exact zrz hx hb hr rfl hK hP hD hS hQ ⟨rfl, zB0⟩ hlocks dX12_isFormatSaid_91
          have hfn := (if_pos c_20).symm.trans hfn
          exact jp_12 () H locs ls hfn hP hD hS (lv_sub hl [0, 1, 2] rfl)
        have hfn := (if_neg c_11).symm.trans hfn
        refine lv_goto (tgt := 92) hx hb dX12_isFormatSaid_42 (of_decide_eq_true rfl) ?_
        refine lv_iinc (v := (s_7 + 1)) (lv' := [(2, .int (s_7 + 1)), (0, .ref h0), (1, .int p1)]) hx hb dX12_isFormatSaid_92 hl (k := 0) rfl rfl (of_decide_eq_true rfl) rfl (fun ls hl => ?_)
        refine lv_goto (tgt := 17) hx hb dX12_isFormatSaid_95 (of_decide_eq_true rfl) ?_
        exact ih_7 (s_7 + 1) H locs ls hfn hP hD hS (lv_sub hl [0, 1, 2] rfl)
    exact lp_7 _ 0 H locs ls hfn hP hD hS (lv_sub hl [0, 1, 2] rfl)
  have hfn := (if_pos c_6).symm.trans hfn
  refine lv_iconst (v := 0) hx hb dX12_isFormatSaid_13 zci_0 ?_
  have ho := Option.some.inj hfn
  subst ho
  exact zrz hx hb hr rfl hK hP hD hS hQ ⟨rfl, zB0⟩ hlocks dX12_isFormatSaid_14
theorem zn_X12_breaks_X12 : ∀ w ∈ wsX120, w ∈ wsX12_breaks := fun _ h => List.mem_cons_of_mem _ (List.mem_append_right _ h)
theorem zw_X12_breaks_1331 : Cond.fieldLink RX12 132 "ShortEnoughModel" "tried" "[I" ∈ wsX12_breaks := List.mem_of_getElem? (i := 1) (by decide +kernel)
theorem zw_X12_breaks_1332 : Cond.fieldLink RX12 195 "ShortEnoughModel" "saysFormat" "[I" ∈ wsX12_breaks := List.mem_of_getElem? (i := 2) (by decide +kernel)
theorem zw_X12_breaks_1333 : Cond.fieldLink RX12 198 "ShortEnoughModel" "saysLeast" "[J" ∈ wsX12_breaks := List.mem_of_getElem? (i := 3) (by decide +kernel)
theorem zw_X12_breaks_1334 : Cond.fieldLink RX12 106 "ShortEnoughModel" "least" "[J" ∈ wsX12_breaks := List.mem_of_getElem? (i := 4) (by decide +kernel)
theorem zw_X12_breaks_1335 : Cond.fieldLink RX12 201 "ShortEnoughModel" "saysGreatest" "[J" ∈ wsX12_breaks := List.mem_of_getElem? (i := 5) (by decide +kernel)
theorem zw_X12_breaks_1336 : Cond.fieldLink RX12 109 "ShortEnoughModel" "greatest" "[J" ∈ wsX12_breaks := List.mem_of_getElem? (i := 6) (by decide +kernel)
theorem zw_X12_breaks_1337 : Cond.fieldLink RX12 204 "ShortEnoughModel" "saysError" "[J" ∈ wsX12_breaks := List.mem_of_getElem? (i := 7) (by decide +kernel)
theorem zw_X12_breaks_1338 : Cond.fieldLink RX12 135 "ShortEnoughModel" "error" "[J" ∈ wsX12_breaks := List.mem_of_getElem? (i := 8) (by decide +kernel)
theorem zw_X12_breaks_1339 : Cond.fieldLink RX12 56 "ShortEnoughModel" "most" "[I" ∈ wsX12_breaks := List.mem_of_getElem? (i := 9) (by decide +kernel)
theorem zw_X12_breaks_1340 : Cond.fieldLink RX12 90 "ShortEnoughModel" "within" "[I" ∈ wsX12_breaks := List.mem_of_getElem? (i := 10) (by decide +kernel)
set_option maxHeartbeats 4000000 in
set_option maxRecDepth 100000 in
theorem zf_X12_breaks (l : Launch) (dC : Nat → ClassId) (dI : Nat → Nat → Nat) (h0 : Nat) (p1 : Int32) (a0 : Nat → Nat) (b0 : Nat → Int32) (c0 : Nat → Int64) (k1 : Nat) (f1 : Nat → Int32) (k2 : Nat) (f2 : Nat → Int32) (k3 : Nat) (f3 : Nat → Int32) (k4 : Nat) (f4 : Nat → Int32) (k5 : Nat) (f5 : Nat → Int32) (k6 : Nat) (f6 : Nat → Int32) (k7 : Nat) (f7 : Nat → Int32) (k8 : Nat) (f8 : Nat → Int32) (k9 : Nat) (f9 : Nat → Int32) (k10 : Nat) (f10 : Nat → Int64) (k11 : Nat) (f11 : Nat → Int64) (k12 : Nat) (f12 : Nat → Int64) (k13 : Nat) (f13 : Nat → Int64) (k14 : Nat) (f14 : Nat → Int32) (k15 : Nat) (f15 : Nat → Int64) (k16 : Nat) (f16 : Nat → Int64) (k17 : Nat) (f17 : Nat → Int64) (k18 : Nat) (f18 : Nat → Int64) (k19 : Nat) (f19 : Nat → Int32) (k20 : Nat) (f20 : Nat → Int32) (o : Int32 × (Nat → Int32) × (Nat → Int64) × (Nat → Int64) × (Nat → Int64)) (hfn : fn_X12_breaks p1 (b0 33) (c0 34) f1 f2 f3 f4 f5 f6 f7 f8 f9 f10 f11 f12 f13 f14 f15 f16 f17 f18 f19 f20 = some o) (sz : Nat) : zMi l yX12_breaks wsX12_breaks ({ frames := 4, cells := 0, slots := 0, locals := 113 }) (dC, dI) vwCl [.ref h0, .int p1] [(h0, .inr (12, zO a0 b0 c0)), zVi (a0 60) k1 14 f1, zVi (a0 12) k2 2 f2, zVi (a0 17) k3 2 f3, zVi (a0 27) k4 28 f4, zVi (a0 25) k5 28 f5, zVi (a0 39) k6 14 f6, zVi (a0 19) k7 28 f7, zVi (a0 20) k8 28 f8, zVi (a0 21) k9 28 f9, zVl (a0 31) k10 14 f10, zVl (a0 22) k11 28 f11, zVl (a0 23) k12 28 f12, zVl (a0 32) k13 14 f13, zVi (a0 14) k14 8 f14, zVl (a0 40) k15 14 f15, zVl (a0 61) k16 14 f16, zVl (a0 62) k17 14 f17, zVl (a0 63) k18 14 f18, zVi (a0 15) k19 8 f19, zVi (a0 26) k20 28 f20] [(k1, .int), (k2, .int), (k3, .int), (k4, .int), (k5, .int), (k6, .int), (k7, .int), (k8, .int), (k9, .int), (k10, .long), (k11, .long), (k12, .long), (k13, .long), (k14, .int), (k15, .long), (k16, .long), (k17, .long), (k18, .long), (k19, .int), (k20, .int)] (fun r _ => r = o.1) [(h0, .inr (12, zO a0 b0 c0)), zVi (a0 60) k1 14 f1, zVi (a0 12) k2 2 f2, zVi (a0 17) k3 2 f3, zVi (a0 27) k4 28 f4, zVi (a0 25) k5 28 f5, zVi (a0 39) k6 14 o.2.1, zVi (a0 19) k7 28 f7, zVi (a0 20) k8 28 f8, zVi (a0 21) k9 28 f9, zVl (a0 31) k10 14 o.2.2.1, zVl (a0 22) k11 28 f11, zVl (a0 23) k12 28 f12, zVl (a0 32) k13 14 o.2.2.2.1, zVi (a0 14) k14 8 f14, zVl (a0 40) k15 14 o.2.2.2.2, zVl (a0 61) k16 14 f16, zVl (a0 62) k17 14 f17, zVl (a0 63) k18 14 f18, zVi (a0 15) k19 8 f19, zVi (a0 26) k20 28 f20] [(k1, .int), (k2, .int), (k3, .int), (k4, .int), (k5, .int), (k6, .int), (k7, .int), (k8, .int), (k9, .int), (k10, .long), (k11, .long), (k12, .long), (k13, .long), (k14, .int), (k15, .long), (k16, .long), (k17, .long), (k18, .long), (k19, .int), (k20, .int)] sz := by
  refine zgoi (cc := cX12_breaks) (maxL := 2) (ret := (some .int)) (C0 := RX12) (lv0 := [(0, .ref h0), (1, .int p1)]) zpl_X12 rfl rfl rfl (Nat.le_of_ble_eq_true rfl) ?_
  intro p e s m below meth c A ls Q hx hb hr hts hown hlocks hml hP hK hD hA hS hl hQ
  unfold fn_X12_breaks at hfn
  refine lv_aload_n hx hb dX12_breaks_0 rfl (lv_at hl 0 rfl) ?_
  refine lv_iload_n hx hb dX12_breaks_1 rfl (lv_at hl 1 rfl) ?_
  obtain ⟨o_1, hqo_1, hfn⟩ := zb_s hfn
  refine zcVb (ci := 12) (rest := []) (pc' := 5) (ws' := [(h0, .inr (12, zO a0 b0 c0)), zVi (a0 60) k1 14 f1, zVi (a0 12) k2 2 f2, zVi (a0 17) k3 2 f3, zVi (a0 27) k4 28 f4, zVi (a0 25) k5 28 f5, zVi (a0 39) k6 14 f6, zVi (a0 19) k7 28 f7, zVi (a0 20) k8 28 f8, zVi (a0 21) k9 28 f9, zVl (a0 31) k10 14 f10, zVl (a0 22) k11 28 f11, zVl (a0 23) k12 28 f12, zVl (a0 32) k13 14 f13, zVi (a0 14) k14 8 f14, zVl (a0 40) k15 14 f15, zVl (a0 61) k16 14 f16, zVl (a0 62) k17 14 f17, zVl (a0 63) k18 14 f18, zVi (a0 15) k19 8 f19, zVi (a0 26) k20 28 f20]) hP hK hD hS hA ⟨hx, hb, hml, hown, hts⟩ (zf_X12_isFormatSaid l dC dI h0 p1 a0 b0 c0 k1 f1 k2 f2 k3 f3 k4 f4 k5 f5 o_1 hqo_1 s.heap.size) (cwV 1 hts gX12_breaks_X12_isFormatSaid rfl rfl rfl zhd_X12_isFormatSaid ⟨Nat.le_of_ble_eq_true rfl, Nat.le_of_ble_eq_true rfl⟩) [0, 1, 2, 3, 4, 5] rfl (of_decide_eq_true rfl) [0, 1, 2, 3, 4] rfl rfl rfl rfl hl.1 rfl (Nat.le_of_ble_eq_true rfl) dX12_breaks_2 ⟨Nat.le_of_ble_eq_true rfl, Nat.le_of_ble_eq_true rfl⟩ [some 0, some 1, some 2, some 3, some 4, some 5] (of_decide_eq_true rfl) (of_decide_eq_true rfl) rfl rfl rfl (fun H locs hw_4n hP hD hS => ?_)
  refine lv_if_ne (tgt := 10) hx hb dX12_breaks_5 (of_decide_eq_true rfl) (fun c_5 => ?_) (fun c_5 => ?_)
  · have hfn := (if_neg c_5).symm.trans hfn
    refine lv_aload_n hx hb dX12_breaks_10 rfl (lv_at hl 0 rfl) ?_
    refine va_get (D := (dC, dI)) (ci := 12) (v := .ref (a0 39)) (C := RX12) (T := TX12) (N := 67) hx hb hts zn_X12_breaks_X12 hown hK hP 0 rfl rfl 39 (of_decide_eq_true rfl) (hts (.fieldLink RX12 132 "ShortEnoughModel" "tried" "[I") zw_X12_breaks_1331) (fun _ h9 => h9) rfl dX12_breaks_11 ?_
    refine lv_iload_n hx hb dX12_breaks_14 rfl (lv_at hl 1 rfl) ?_
    refine lv_aload_n hx hb dX12_breaks_15 rfl (lv_at hl 0 rfl) ?_
    refine va_get (D := (dC, dI)) (ci := 12) (v := .ref (a0 60)) (C := RX12) (T := TX12) (N := 67) hx hb hts zn_X12_breaks_X12 hown hK hP 0 rfl rfl 60 (of_decide_eq_true rfl) (hts (.fieldLink RX12 195 "ShortEnoughModel" "saysFormat" "[I") zw_X12_breaks_1332) (fun _ h9 => h9) rfl dX12_breaks_16 ?_
    refine lv_iload_n hx hb dX12_breaks_19 rfl (lv_at hl 1 rfl) ?_
    obtain ⟨h_6, hfn⟩ := zg_s hfn
    refine va_iald hx hb hK hP 1 0 rfl rfl h_6 dX12_breaks_20 ?_
    refine va_iast hx hb hK hP hD hS 6 5 rfl rfl h_6 dX12_breaks_21 (fun H locs hP hD hS => ?_)
    have hP : va_P (dC, dI) vwCl [(h0, .inr (12, zO a0 b0 c0)), zVi (a0 60) k1 14 f1, zVi (a0 12) k2 2 f2, zVi (a0 17) k3 2 f3, zVi (a0 27) k4 28 f4, zVi (a0 25) k5 28 f5, zVi (a0 39) k6 14 (upd f6 p1.toNatClampNeg (f1 p1.toNatClampNeg)), zVi (a0 19) k7 28 f7, zVi (a0 20) k8 28 f8, zVi (a0 21) k9 28 f9, zVl (a0 31) k10 14 f10, zVl (a0 22) k11 28 f11, zVl (a0 23) k12 28 f12, zVl (a0 32) k13 14 f13, zVi (a0 14) k14 8 f14, zVl (a0 40) k15 14 f15, zVl (a0 61) k16 14 f16, zVl (a0 62) k17 14 f17, zVl (a0 63) k18 14 f18, zVi (a0 15) k19 8 f19, zVi (a0 26) k20 28 f20] H := hP
    have hD := zDW hD hP rfl
    refine lv_aload_n hx hb dX12_breaks_22 rfl (lv_at hl 0 rfl) ?_
    refine lv_iload_n hx hb dX12_breaks_23 rfl (lv_at hl 1 rfl) ?_
    obtain ⟨o_7, hqo_7, hfn⟩ := zb_s hfn
    refine zcVv (ci := 12) (rest := []) (pc' := 27) (ws' := [(h0, .inr (12, zO a0 b0 c0)), zVi (a0 60) k1 14 f1, zVi (a0 12) k2 2 f2, zVi (a0 17) k3 2 f3, zVi (a0 27) k4 28 f4, zVi (a0 25) k5 28 f5, zVi (a0 39) k6 14 (upd f6 p1.toNatClampNeg (f1 p1.toNatClampNeg)), zVi (a0 19) k7 28 f7, zVi (a0 20) k8 28 f8, zVi (a0 21) k9 28 f9, zVl (a0 31) k10 14 o_7.1, zVl (a0 22) k11 28 f11, zVl (a0 23) k12 28 f12, zVl (a0 32) k13 14 o_7.2, zVi (a0 14) k14 8 f14, zVl (a0 40) k15 14 f15, zVl (a0 61) k16 14 f16, zVl (a0 62) k17 14 f17, zVl (a0 63) k18 14 f18, zVi (a0 15) k19 8 f19, zVi (a0 26) k20 28 f20]) hP hK hD hS hA ⟨hx, hb, hml, hown, hts⟩ (zf_X12_laysRange l dC dI h0 p1 a0 b0 c0 k7 f7 k8 f8 k9 f9 k10 f10 k11 f11 k12 f12 k13 f13 o_7 hqo_7 H.size) (cwV 1 hts gX12_breaks_X12_laysRange rfl rfl rfl zhd_X12_laysRange ⟨Nat.le_of_ble_eq_true rfl, Nat.le_of_ble_eq_true rfl⟩) [0, 7, 8, 9, 10, 11, 12, 13] rfl (of_decide_eq_true rfl) [6, 7, 8, 9, 10, 11, 12] rfl rfl rfl rfl hl.1 rfl (Nat.le_of_ble_eq_true rfl) dX12_breaks_24 ⟨Nat.le_of_ble_eq_true rfl, Nat.le_of_ble_eq_true rfl⟩ [some 0, none, none, none, none, none, none, some 1, some 2, some 3, some 4, some 5, some 6, some 7] (of_decide_eq_true rfl) (of_decide_eq_true rfl) rfl rfl rfl (fun H locs hP hD hS => ?_)
    refine lv_aload_n hx hb dX12_breaks_27 rfl (lv_at hl 0 rfl) ?_
    refine lv_iload_n hx hb dX12_breaks_28 rfl (lv_at hl 1 rfl) ?_
    obtain ⟨o_11, hqo_11, hfn⟩ := zb_s hfn
    refine zcVv (ci := 12) (rest := []) (pc' := 32) (ws' := [(h0, .inr (12, zO a0 b0 c0)), zVi (a0 60) k1 14 f1, zVi (a0 12) k2 2 f2, zVi (a0 17) k3 2 f3, zVi (a0 27) k4 28 f4, zVi (a0 25) k5 28 f5, zVi (a0 39) k6 14 (upd f6 p1.toNatClampNeg (f1 p1.toNatClampNeg)), zVi (a0 19) k7 28 f7, zVi (a0 20) k8 28 f8, zVi (a0 21) k9 28 f9, zVl (a0 31) k10 14 o_7.1, zVl (a0 22) k11 28 f11, zVl (a0 23) k12 28 f12, zVl (a0 32) k13 14 o_7.2, zVi (a0 14) k14 8 f14, zVl (a0 40) k15 14 o_11, zVl (a0 61) k16 14 f16, zVl (a0 62) k17 14 f17, zVl (a0 63) k18 14 f18, zVi (a0 15) k19 8 f19, zVi (a0 26) k20 28 f20]) hP hK hD hS hA ⟨hx, hb, hml, hown, hts⟩ (zf_X12_laysError l dC dI h0 p1 a0 b0 c0 k6 (upd f6 p1.toNatClampNeg (f1 p1.toNatClampNeg)) k14 f14 k7 f7 k8 f8 k9 f9 k15 f15 k11 f11 k12 f12 k10 o_7.1 k13 o_7.2 o_11 hqo_11 H.size) (cwV 1 hts gX12_breaks_X12_laysError rfl rfl rfl zhd_X12_laysError ⟨Nat.le_of_ble_eq_true rfl, Nat.le_of_ble_eq_true rfl⟩) [0, 6, 14, 7, 8, 9, 15, 11, 12, 10, 13] rfl (of_decide_eq_true rfl) [5, 13, 6, 7, 8, 14, 10, 11, 9, 12] rfl rfl rfl rfl hl.1 rfl (Nat.le_of_ble_eq_true rfl) dX12_breaks_29 ⟨Nat.le_of_ble_eq_true rfl, Nat.le_of_ble_eq_true rfl⟩ [some 0, none, none, none, none, none, some 1, some 3, some 4, some 5, some 9, some 7, some 8, some 10, some 2, some 6] (of_decide_eq_true rfl) (of_decide_eq_true rfl) rfl rfl rfl (fun H locs hP hD hS => ?_)
    refine lv_aload_n hx hb dX12_breaks_32 rfl (lv_at hl 0 rfl) ?_
    refine va_get (D := (dC, dI)) (ci := 12) (v := .ref (a0 61)) (C := RX12) (T := TX12) (N := 67) hx hb hts zn_X12_breaks_X12 hown hK hP 0 rfl rfl 61 (of_decide_eq_true rfl) (hts (.fieldLink RX12 198 "ShortEnoughModel" "saysLeast" "[J") zw_X12_breaks_1333) (fun _ h9 => h9) rfl dX12_breaks_33 ?_
    refine lv_iload_n hx hb dX12_breaks_36 rfl (lv_at hl 1 rfl) ?_
    refine va_lald hx hb hK hP 16 15 rfl rfl h_6 dX12_breaks_37 ?_
    refine lv_aload_n hx hb dX12_breaks_38 rfl (lv_at hl 0 rfl) ?_
    refine va_get (D := (dC, dI)) (ci := 12) (v := .ref (a0 31)) (C := RX12) (T := TX12) (N := 67) hx hb hts zn_X12_breaks_X12 hown hK hP 0 rfl rfl 31 (of_decide_eq_true rfl) (hts (.fieldLink RX12 106 "ShortEnoughModel" "least" "[J") zw_X12_breaks_1334) (fun _ h9 => h9) rfl dX12_breaks_39 ?_
    refine lv_iload_n hx hb dX12_breaks_42 rfl (lv_at hl 1 rfl) ?_
    refine va_lald hx hb hK hP 10 9 rfl rfl h_6 dX12_breaks_43 ?_
    refine W.lcmp hx hb dX12_breaks_44 ?_
    refine lv_if_le (tgt := 50) hx hb dX12_breaks_45 (of_decide_eq_true rfl) (fun c_15 => ?_) (fun c_15 => ?_)
    · have hfn := (if_pos c_15).symm.trans hfn
      refine lv_aload_n hx hb dX12_breaks_50 rfl (lv_at hl 0 rfl) ?_
      refine va_get (D := (dC, dI)) (ci := 12) (v := .ref (a0 62)) (C := RX12) (T := TX12) (N := 67) hx hb hts zn_X12_breaks_X12 hown hK hP 0 rfl rfl 62 (of_decide_eq_true rfl) (hts (.fieldLink RX12 201 "ShortEnoughModel" "saysGreatest" "[J") zw_X12_breaks_1335) (fun _ h9 => h9) rfl dX12_breaks_51 ?_
      refine lv_iload_n hx hb dX12_breaks_54 rfl (lv_at hl 1 rfl) ?_
      refine va_lald hx hb hK hP 17 16 rfl rfl h_6 dX12_breaks_55 ?_
      refine lv_aload_n hx hb dX12_breaks_56 rfl (lv_at hl 0 rfl) ?_
      refine va_get (D := (dC, dI)) (ci := 12) (v := .ref (a0 32)) (C := RX12) (T := TX12) (N := 67) hx hb hts zn_X12_breaks_X12 hown hK hP 0 rfl rfl 32 (of_decide_eq_true rfl) (hts (.fieldLink RX12 109 "ShortEnoughModel" "greatest" "[J") zw_X12_breaks_1336) (fun _ h9 => h9) rfl dX12_breaks_57 ?_
      refine lv_iload_n hx hb dX12_breaks_60 rfl (lv_at hl 1 rfl) ?_
      refine va_lald hx hb hK hP 13 12 rfl rfl h_6 dX12_breaks_61 ?_
      refine W.lcmp hx hb dX12_breaks_62 ?_
      refine lv_if_ge (tgt := 68) hx hb dX12_breaks_63 (of_decide_eq_true rfl) (fun c_16 => ?_) (fun c_16 => ?_)
      · have hfn := (if_pos c_16).symm.trans hfn
        refine lv_aload_n hx hb dX12_breaks_68 rfl (lv_at hl 0 rfl) ?_
        refine va_get (D := (dC, dI)) (ci := 12) (v := .ref (a0 63)) (C := RX12) (T := TX12) (N := 67) hx hb hts zn_X12_breaks_X12 hown hK hP 0 rfl rfl 63 (of_decide_eq_true rfl) (hts (.fieldLink RX12 204 "ShortEnoughModel" "saysError" "[J") zw_X12_breaks_1337) (fun _ h9 => h9) rfl dX12_breaks_69 ?_
        refine lv_iload_n hx hb dX12_breaks_72 rfl (lv_at hl 1 rfl) ?_
        refine va_lald hx hb hK hP 18 17 rfl rfl h_6 dX12_breaks_73 ?_
        refine lv_aload_n hx hb dX12_breaks_74 rfl (lv_at hl 0 rfl) ?_
        refine va_get (D := (dC, dI)) (ci := 12) (v := .ref (a0 40)) (C := RX12) (T := TX12) (N := 67) hx hb hts zn_X12_breaks_X12 hown hK hP 0 rfl rfl 40 (of_decide_eq_true rfl) (hts (.fieldLink RX12 135 "ShortEnoughModel" "error" "[J") zw_X12_breaks_1338) (fun _ h9 => h9) rfl dX12_breaks_75 ?_
        refine lv_iload_n hx hb dX12_breaks_78 rfl (lv_at hl 1 rfl) ?_
        refine va_lald hx hb hK hP 15 14 rfl rfl h_6 dX12_breaks_79 ?_
        refine W.lcmp hx hb dX12_breaks_80 ?_
        refine lv_if_lt (tgt := 95) hx hb dX12_breaks_81 (of_decide_eq_true rfl) (fun c_17 => ?_) (fun c_17 => ?_)
        · have hfn := (if_pos c_17).symm.trans hfn
          refine lv_iconst (v := 4) hx hb dX12_breaks_95 zci_4 ?_
          have ho := Option.some.inj hfn
          subst ho
          exact zri hx hb hr hK hP hD hS hQ rfl hlocks dX12_breaks_96
        have hfn := (if_neg c_17).symm.trans hfn
        refine lv_aload_n hx hb dX12_breaks_84 rfl (lv_at hl 0 rfl) ?_
        refine va_get (D := (dC, dI)) (ci := 12) (v := .ref (a0 63)) (C := RX12) (T := TX12) (N := 67) hx hb hts zn_X12_breaks_X12 hown hK hP 0 rfl rfl 63 (of_decide_eq_true rfl) (hts (.fieldLink RX12 204 "ShortEnoughModel" "saysError" "[J") zw_X12_breaks_1337) (fun _ h9 => h9) rfl dX12_breaks_85 ?_
        refine lv_iload_n hx hb dX12_breaks_88 rfl (lv_at hl 1 rfl) ?_
        refine va_lald hx hb hK hP 18 17 rfl rfl h_6 dX12_breaks_89 ?_
        refine lv_lconst (v := 0) hx hb dX12_breaks_90 (by decide +kernel) ?_
        refine W.lcmp hx hb dX12_breaks_91 ?_
        refine lv_if_ge (tgt := 97) hx hb dX12_breaks_92 (of_decide_eq_true rfl) (fun c_18 => ?_) (fun c_18 => ?_)
        · have hfn := (if_pos c_18).symm.trans hfn
          refine lv_aload_n hx hb dX12_breaks_97 rfl (lv_at hl 0 rfl) ?_
          refine va_get (D := (dC, dI)) (ci := 12) (v := .ref (a0 31)) (C := RX12) (T := TX12) (N := 67) hx hb hts zn_X12_breaks_X12 hown hK hP 0 rfl rfl 31 (of_decide_eq_true rfl) (hts (.fieldLink RX12 106 "ShortEnoughModel" "least" "[J") zw_X12_breaks_1334) (fun _ h9 => h9) rfl dX12_breaks_98 ?_
          refine lv_iload_n hx hb dX12_breaks_101 rfl (lv_at hl 1 rfl) ?_
          refine lv_aload_n hx hb dX12_breaks_102 rfl (lv_at hl 0 rfl) ?_
          refine va_get (D := (dC, dI)) (ci := 12) (v := .ref (a0 61)) (C := RX12) (T := TX12) (N := 67) hx hb hts zn_X12_breaks_X12 hown hK hP 0 rfl rfl 61 (of_decide_eq_true rfl) (hts (.fieldLink RX12 198 "ShortEnoughModel" "saysLeast" "[J") zw_X12_breaks_1333) (fun _ h9 => h9) rfl dX12_breaks_103 ?_
          refine lv_iload_n hx hb dX12_breaks_106 rfl (lv_at hl 1 rfl) ?_
          refine va_lald hx hb hK hP 16 15 rfl rfl h_6 dX12_breaks_107 ?_
          refine va_last hx hb hK hP hD hS 10 9 rfl rfl h_6 dX12_breaks_108 (fun H locs hP hD hS => ?_)
          have hP : va_P (dC, dI) vwCl [(h0, .inr (12, zO a0 b0 c0)), zVi (a0 60) k1 14 f1, zVi (a0 12) k2 2 f2, zVi (a0 17) k3 2 f3, zVi (a0 27) k4 28 f4, zVi (a0 25) k5 28 f5, zVi (a0 39) k6 14 (upd f6 p1.toNatClampNeg (f1 p1.toNatClampNeg)), zVi (a0 19) k7 28 f7, zVi (a0 20) k8 28 f8, zVi (a0 21) k9 28 f9, zVl (a0 31) k10 14 (vp_updL o_7.1 p1.toNatClampNeg (f16 p1.toNatClampNeg)), zVl (a0 22) k11 28 f11, zVl (a0 23) k12 28 f12, zVl (a0 32) k13 14 o_7.2, zVi (a0 14) k14 8 f14, zVl (a0 40) k15 14 o_11, zVl (a0 61) k16 14 f16, zVl (a0 62) k17 14 f17, zVl (a0 63) k18 14 f18, zVi (a0 15) k19 8 f19, zVi (a0 26) k20 28 f20] H := hP
          have hD := zDW hD hP rfl
          refine lv_aload_n hx hb dX12_breaks_109 rfl (lv_at hl 0 rfl) ?_
          refine va_get (D := (dC, dI)) (ci := 12) (v := .ref (a0 32)) (C := RX12) (T := TX12) (N := 67) hx hb hts zn_X12_breaks_X12 hown hK hP 0 rfl rfl 32 (of_decide_eq_true rfl) (hts (.fieldLink RX12 109 "ShortEnoughModel" "greatest" "[J") zw_X12_breaks_1336) (fun _ h9 => h9) rfl dX12_breaks_110 ?_
          refine lv_iload_n hx hb dX12_breaks_113 rfl (lv_at hl 1 rfl) ?_
          refine lv_aload_n hx hb dX12_breaks_114 rfl (lv_at hl 0 rfl) ?_
          refine va_get (D := (dC, dI)) (ci := 12) (v := .ref (a0 62)) (C := RX12) (T := TX12) (N := 67) hx hb hts zn_X12_breaks_X12 hown hK hP 0 rfl rfl 62 (of_decide_eq_true rfl) (hts (.fieldLink RX12 201 "ShortEnoughModel" "saysGreatest" "[J") zw_X12_breaks_1335) (fun _ h9 => h9) rfl dX12_breaks_115 ?_
          refine lv_iload_n hx hb dX12_breaks_118 rfl (lv_at hl 1 rfl) ?_
          refine va_lald hx hb hK hP 17 16 rfl rfl h_6 dX12_breaks_119 ?_
          refine va_last hx hb hK hP hD hS 13 12 rfl rfl h_6 dX12_breaks_120 (fun H locs hP hD hS => ?_)
          have hP : va_P (dC, dI) vwCl [(h0, .inr (12, zO a0 b0 c0)), zVi (a0 60) k1 14 f1, zVi (a0 12) k2 2 f2, zVi (a0 17) k3 2 f3, zVi (a0 27) k4 28 f4, zVi (a0 25) k5 28 f5, zVi (a0 39) k6 14 (upd f6 p1.toNatClampNeg (f1 p1.toNatClampNeg)), zVi (a0 19) k7 28 f7, zVi (a0 20) k8 28 f8, zVi (a0 21) k9 28 f9, zVl (a0 31) k10 14 (vp_updL o_7.1 p1.toNatClampNeg (f16 p1.toNatClampNeg)), zVl (a0 22) k11 28 f11, zVl (a0 23) k12 28 f12, zVl (a0 32) k13 14 (vp_updL o_7.2 p1.toNatClampNeg (f17 p1.toNatClampNeg)), zVi (a0 14) k14 8 f14, zVl (a0 40) k15 14 o_11, zVl (a0 61) k16 14 f16, zVl (a0 62) k17 14 f17, zVl (a0 63) k18 14 f18, zVi (a0 15) k19 8 f19, zVi (a0 26) k20 28 f20] H := hP
          have hD := zDW hD hP rfl
          refine lv_aload_n hx hb dX12_breaks_121 rfl (lv_at hl 0 rfl) ?_
          refine va_get (D := (dC, dI)) (ci := 12) (v := .ref (a0 40)) (C := RX12) (T := TX12) (N := 67) hx hb hts zn_X12_breaks_X12 hown hK hP 0 rfl rfl 40 (of_decide_eq_true rfl) (hts (.fieldLink RX12 135 "ShortEnoughModel" "error" "[J") zw_X12_breaks_1338) (fun _ h9 => h9) rfl dX12_breaks_122 ?_
          refine lv_iload_n hx hb dX12_breaks_125 rfl (lv_at hl 1 rfl) ?_
          refine lv_aload_n hx hb dX12_breaks_126 rfl (lv_at hl 0 rfl) ?_
          refine va_get (D := (dC, dI)) (ci := 12) (v := .ref (a0 63)) (C := RX12) (T := TX12) (N := 67) hx hb hts zn_X12_breaks_X12 hown hK hP 0 rfl rfl 63 (of_decide_eq_true rfl) (hts (.fieldLink RX12 204 "ShortEnoughModel" "saysError" "[J") zw_X12_breaks_1337) (fun _ h9 => h9) rfl dX12_breaks_127 ?_
          refine lv_iload_n hx hb dX12_breaks_130 rfl (lv_at hl 1 rfl) ?_
          refine va_lald hx hb hK hP 18 17 rfl rfl h_6 dX12_breaks_131 ?_
          refine va_last hx hb hK hP hD hS 15 14 rfl rfl h_6 dX12_breaks_132 (fun H locs hP hD hS => ?_)
          have hP : va_P (dC, dI) vwCl [(h0, .inr (12, zO a0 b0 c0)), zVi (a0 60) k1 14 f1, zVi (a0 12) k2 2 f2, zVi (a0 17) k3 2 f3, zVi (a0 27) k4 28 f4, zVi (a0 25) k5 28 f5, zVi (a0 39) k6 14 (upd f6 p1.toNatClampNeg (f1 p1.toNatClampNeg)), zVi (a0 19) k7 28 f7, zVi (a0 20) k8 28 f8, zVi (a0 21) k9 28 f9, zVl (a0 31) k10 14 (vp_updL o_7.1 p1.toNatClampNeg (f16 p1.toNatClampNeg)), zVl (a0 22) k11 28 f11, zVl (a0 23) k12 28 f12, zVl (a0 32) k13 14 (vp_updL o_7.2 p1.toNatClampNeg (f17 p1.toNatClampNeg)), zVi (a0 14) k14 8 f14, zVl (a0 40) k15 14 (vp_updL o_11 p1.toNatClampNeg (f18 p1.toNatClampNeg)), zVl (a0 61) k16 14 f16, zVl (a0 62) k17 14 f17, zVl (a0 63) k18 14 f18, zVi (a0 15) k19 8 f19, zVi (a0 26) k20 28 f20] H := hP
          have hD := zDW hD hP rfl
          refine lv_aload_n hx hb dX12_breaks_133 rfl (lv_at hl 0 rfl) ?_
          refine lv_iload_n hx hb dX12_breaks_134 rfl (lv_at hl 1 rfl) ?_
          obtain ⟨o_19, hqo_19, hfn⟩ := zb_s hfn
          refine zcVl (ci := 12) (rest := []) (pc' := 138) (ws' := [(h0, .inr (12, zO a0 b0 c0)), zVi (a0 60) k1 14 f1, zVi (a0 12) k2 2 f2, zVi (a0 17) k3 2 f3, zVi (a0 27) k4 28 f4, zVi (a0 25) k5 28 f5, zVi (a0 39) k6 14 (upd f6 p1.toNatClampNeg (f1 p1.toNatClampNeg)), zVi (a0 19) k7 28 f7, zVi (a0 20) k8 28 f8, zVi (a0 21) k9 28 f9, zVl (a0 31) k10 14 (vp_updL o_7.1 p1.toNatClampNeg (f16 p1.toNatClampNeg)), zVl (a0 22) k11 28 f11, zVl (a0 23) k12 28 f12, zVl (a0 32) k13 14 (vp_updL o_7.2 p1.toNatClampNeg (f17 p1.toNatClampNeg)), zVi (a0 14) k14 8 f14, zVl (a0 40) k15 14 (vp_updL o_11 p1.toNatClampNeg (f18 p1.toNatClampNeg)), zVl (a0 61) k16 14 f16, zVl (a0 62) k17 14 f17, zVl (a0 63) k18 14 f18, zVi (a0 15) k19 8 f19, zVi (a0 26) k20 28 f20]) hP hK hD hS hA ⟨hx, hb, hml, hown, hts⟩ (zf_X12_mostOf l dC dI h0 p1 a0 b0 c0 k10 (vp_updL o_7.1 p1.toNatClampNeg (f16 p1.toNatClampNeg)) k13 (vp_updL o_7.2 p1.toNatClampNeg (f17 p1.toNatClampNeg)) o_19 hqo_19 H.size) (cwV 1 hts gX12_breaks_X12_mostOf rfl rfl rfl zhd_X12_mostOf ⟨Nat.le_of_ble_eq_true rfl, Nat.le_of_ble_eq_true rfl⟩) [0, 10, 13] rfl (of_decide_eq_true rfl) [9, 12] rfl rfl rfl rfl hl.1 rfl (Nat.le_of_ble_eq_true rfl) dX12_breaks_135 ⟨Nat.le_of_ble_eq_true rfl, Nat.le_of_ble_eq_true rfl⟩ [some 0, none, none, none, none, none, none, none, none, none, some 1, none, none, some 2] (of_decide_eq_true rfl) (of_decide_eq_true rfl) rfl rfl rfl (fun H locs hP hD hS => ?_)
          refine lv_aload_n hx hb dX12_breaks_138 rfl (lv_at hl 0 rfl) ?_
          refine va_get (D := (dC, dI)) (ci := 12) (v := .ref (a0 40)) (C := RX12) (T := TX12) (N := 67) hx hb hts zn_X12_breaks_X12 hown hK hP 0 rfl rfl 40 (of_decide_eq_true rfl) (hts (.fieldLink RX12 135 "ShortEnoughModel" "error" "[J") zw_X12_breaks_1338) (fun _ h9 => h9) rfl dX12_breaks_139 ?_
          refine lv_iload_n hx hb dX12_breaks_142 rfl (lv_at hl 1 rfl) ?_
          refine va_lald hx hb hK hP 15 14 rfl rfl h_6 dX12_breaks_143 ?_
          refine lv_topl (fun x_23 ex_23 => ?_)
          have hfn := zn_s hfn ex_23
          refine lv_ladd hx hb dX12_breaks_144 ?_
          refine lv_aload_n hx hb dX12_breaks_145 rfl (lv_at hl 0 rfl) ?_
          refine va_get (D := (dC, dI)) (ci := 12) (v := .ref (a0 15)) (C := RX12) (T := TX12) (N := 67) hx hb hts zn_X12_breaks_X12 hown hK hP 0 rfl rfl 15 (of_decide_eq_true rfl) (hts (.fieldLink RX12 56 "ShortEnoughModel" "most" "[I") zw_X12_breaks_1339) (fun _ h9 => h9) rfl dX12_breaks_146 ?_
          refine lv_aload_n hx hb dX12_breaks_149 rfl (lv_at hl 0 rfl) ?_
          refine va_get (D := (dC, dI)) (ci := 12) (v := .ref (a0 39)) (C := RX12) (T := TX12) (N := 67) hx hb hts zn_X12_breaks_X12 hown hK hP 0 rfl rfl 39 (of_decide_eq_true rfl) (hts (.fieldLink RX12 132 "ShortEnoughModel" "tried" "[I") zw_X12_breaks_1331) (fun _ h9 => h9) rfl dX12_breaks_150 ?_
          refine lv_iload_n hx hb dX12_breaks_153 rfl (lv_at hl 1 rfl) ?_
          refine va_iald hx hb hK hP 6 5 rfl rfl h_6 dX12_breaks_154 ?_
          obtain ⟨h_24, hfn⟩ := zg_s hfn
          refine va_iald hx hb hK hP 19 18 rfl rfl h_24 dX12_breaks_155 ?_
          refine lv_topi (fun x_25 ex_25 => ?_)
          have hfn := zn_s hfn ex_25
          refine lv_i2l (v := x_25.toInt64) hx hb dX12_breaks_156 rfl ?_
          refine W.lcmp hx hb dX12_breaks_157 ?_
          refine lv_if_le (tgt := 163) hx hb dX12_breaks_158 (of_decide_eq_true rfl) (fun c_26 => ?_) (fun c_26 => ?_)
          · have hfn := (if_pos c_26).symm.trans hfn
            refine lv_aload_n hx hb dX12_breaks_163 rfl (lv_at hl 0 rfl) ?_
            refine va_get (D := (dC, dI)) (ci := 12) (v := .ref (a0 26)) (C := RX12) (T := TX12) (N := 67) hx hb hts zn_X12_breaks_X12 hown hK hP 0 rfl rfl 26 (of_decide_eq_true rfl) (hts (.fieldLink RX12 90 "ShortEnoughModel" "within" "[I") zw_X12_breaks_1340) (fun _ h9 => h9) rfl dX12_breaks_164 ?_
            refine lv_iload_n hx hb dX12_breaks_167 rfl (lv_at hl 1 rfl) ?_
            obtain ⟨h_27, hfn⟩ := zg_s hfn
            refine va_iald hx hb hK hP 20 19 rfl rfl h_27 dX12_breaks_168 ?_
            refine lv_iconst (v := (-1)) hx hb dX12_breaks_169 zci_m1 ?_
            refine lv_icmp_eq (tgt := 195) hx hb dX12_breaks_170 (of_decide_eq_true rfl) (fun c_28 => ?_) (fun c_28 => ?_)
            · have hfn := (if_pos c_28).symm.trans hfn
              refine lv_iconst (v := 0) hx hb dX12_breaks_195 zci_0 ?_
              have ho := Option.some.inj hfn
              subst ho
              exact zri hx hb hr hK hP hD hS hQ rfl hlocks dX12_breaks_196
            have hfn := (if_neg c_28).symm.trans hfn
            refine lv_aload_n hx hb dX12_breaks_173 rfl (lv_at hl 0 rfl) ?_
            refine va_get (D := (dC, dI)) (ci := 12) (v := .ref (a0 40)) (C := RX12) (T := TX12) (N := 67) hx hb hts zn_X12_breaks_X12 hown hK hP 0 rfl rfl 40 (of_decide_eq_true rfl) (hts (.fieldLink RX12 135 "ShortEnoughModel" "error" "[J") zw_X12_breaks_1338) (fun _ h9 => h9) rfl dX12_breaks_174 ?_
            refine lv_iload_n hx hb dX12_breaks_177 rfl (lv_at hl 1 rfl) ?_
            refine va_lald hx hb hK hP 15 14 rfl rfl h_6 dX12_breaks_178 ?_
            refine lv_topl (fun x_29 ex_29 => ?_)
            have hfn := zn_s hfn ex_29
            refine lv_aload_n hx hb dX12_breaks_179 rfl (lv_at hl 0 rfl) ?_
            refine va_get (D := (dC, dI)) (ci := 12) (v := .ref (a0 26)) (C := RX12) (T := TX12) (N := 67) hx hb hts zn_X12_breaks_X12 hown hK hP 0 rfl rfl 26 (of_decide_eq_true rfl) (hts (.fieldLink RX12 90 "ShortEnoughModel" "within" "[I") zw_X12_breaks_1340) (fun _ h9 => h9) rfl dX12_breaks_180 ?_
            refine lv_iload_n hx hb dX12_breaks_183 rfl (lv_at hl 1 rfl) ?_
            refine va_iald hx hb hK hP 20 19 rfl rfl h_27 dX12_breaks_184 ?_
            refine lv_i2l (v := (f20 p1.toNatClampNeg).toInt64) hx hb dX12_breaks_185 rfl ?_
            refine W.lcmp hx hb dX12_breaks_186 ?_
            refine lv_if_le (tgt := 195) hx hb dX12_breaks_187 (of_decide_eq_true rfl) (fun c_30 => ?_) (fun c_30 => ?_)
            · have hfn := (if_pos c_30).symm.trans hfn
              refine lv_iconst (v := 0) hx hb dX12_breaks_195 zci_0 ?_
              have ho := Option.some.inj hfn
              subst ho
              exact zri hx hb hr hK hP hD hS hQ rfl hlocks dX12_breaks_196
            have hfn := (if_neg c_30).symm.trans hfn
            refine lv_bipush (v := 6) hx hb dX12_breaks_190 zcb_6 ?_
            refine lv_goto (tgt := 196) hx hb dX12_breaks_192 (of_decide_eq_true rfl) ?_
            have ho := Option.some.inj hfn
            subst ho
            exact zri hx hb hr hK hP hD hS hQ rfl hlocks dX12_breaks_196
          have hfn := (if_neg c_26).symm.trans hfn
          refine lv_iconst (v := 5) hx hb dX12_breaks_161 zci_5 ?_
          have ho := Option.some.inj hfn
          subst ho
          exact zri hx hb hr hK hP hD hS hQ rfl hlocks dX12_breaks_162
        have hfn := (if_neg c_18).symm.trans hfn
        refine lv_iconst (v := 4) hx hb dX12_breaks_95 zci_4 ?_
        have ho := Option.some.inj hfn
        subst ho
        exact zri hx hb hr hK hP hD hS hQ rfl hlocks dX12_breaks_96
      have hfn := (if_neg c_16).symm.trans hfn
      refine lv_iconst (v := 3) hx hb dX12_breaks_66 zci_3 ?_
      have ho := Option.some.inj hfn
      subst ho
      exact zri hx hb hr hK hP hD hS hQ rfl hlocks dX12_breaks_67
    have hfn := (if_neg c_15).symm.trans hfn
    refine lv_iconst (v := 2) hx hb dX12_breaks_48 zci_2 ?_
    have ho := Option.some.inj hfn
    subst ho
    exact zri hx hb hr hK hP hD hS hQ rfl hlocks dX12_breaks_49
  have hfn := (if_pos c_5).symm.trans hfn
  refine lv_iconst (v := 1) hx hb dX12_breaks_8 zci_1 ?_
  have ho := Option.some.inj hfn
  subst ho
  exact zri hx hb hr hK hP hD hS hQ rfl hlocks dX12_breaks_9
theorem zn_X12_check_X12 : ∀ w ∈ wsX120, w ∈ wsX12_check := fun _ h => List.mem_cons_of_mem _ (List.mem_append_right _ h)
theorem zw_X12_check_1342 : Cond.fieldLink RX12 13 "ShortEnoughModel" "taped" "I" ∈ wsX12_check := List.mem_of_getElem? (i := 1) (by decide +kernel)
theorem zw_X12_check_1343 : Cond.fieldLink RX12 189 "ShortEnoughModel" "brokenAt" "I" ∈ wsX12_check := List.mem_of_getElem? (i := 2) (by decide +kernel)
theorem zw_X12_check_1344 : Cond.fieldLink RX12 192 "ShortEnoughModel" "brokenWhy" "I" ∈ wsX12_check := List.mem_of_getElem? (i := 3) (by decide +kernel)
theorem zw_X12_check_1345 : Cond.fieldLink RX12 62 "ShortEnoughModel" "numbers" "[I" ∈ wsX12_check := List.mem_of_getElem? (i := 4) (by decide +kernel)
theorem zw_X12_check_1346 : Cond.fieldLink RX12 112 "ShortEnoughModel" "wideNumber" "I" ∈ wsX12_check := List.mem_of_getElem? (i := 5) (by decide +kernel)
theorem zw_X12_check_1347 : Cond.fieldLink RX12 195 "ShortEnoughModel" "saysFormat" "[I" ∈ wsX12_check := List.mem_of_getElem? (i := 6) (by decide +kernel)
theorem zw_X12_check_1348 : Cond.fieldLink RX12 7 "ShortEnoughModel" "tape" "[I" ∈ wsX12_check := List.mem_of_getElem? (i := 7) (by decide +kernel)
theorem zw_X12_check_1349 : Cond.fieldLink RX12 198 "ShortEnoughModel" "saysLeast" "[J" ∈ wsX12_check := List.mem_of_getElem? (i := 8) (by decide +kernel)
theorem zw_X12_check_1350 : Cond.fieldLink RX12 201 "ShortEnoughModel" "saysGreatest" "[J" ∈ wsX12_check := List.mem_of_getElem? (i := 9) (by decide +kernel)
theorem zw_X12_check_1351 : Cond.fieldLink RX12 204 "ShortEnoughModel" "saysError" "[J" ∈ wsX12_check := List.mem_of_getElem? (i := 10) (by decide +kernel)
set_option maxHeartbeats 4000000 in
set_option maxRecDepth 100000 in
theorem zf_X12_check (l : Launch) (dC : Nat → ClassId) (dI : Nat → Nat → Nat) (h0 : Nat) (a0 : Nat → Nat) (b0 : Nat → Int32) (c0 : Nat → Int64) (k1 : Nat) (f1 : Nat → Int32) (k2 : Nat) (f2 : Nat → Int32) (k3 : Nat) (f3 : Nat → Int32) (k4 : Nat) (f4 : Nat → Int32) (k5 : Nat) (f5 : Nat → Int64) (k6 : Nat) (f6 : Nat → Int64) (k7 : Nat) (f7 : Nat → Int64) (k8 : Nat) (f8 : Nat → Int32) (k9 : Nat) (f9 : Nat → Int32) (k10 : Nat) (f10 : Nat → Int32) (k11 : Nat) (f11 : Nat → Int32) (k12 : Nat) (f12 : Nat → Int32) (k13 : Nat) (f13 : Nat → Int32) (k14 : Nat) (f14 : Nat → Int32) (k15 : Nat) (f15 : Nat → Int64) (k16 : Nat) (f16 : Nat → Int64) (k17 : Nat) (f17 : Nat → Int64) (k18 : Nat) (f18 : Nat → Int64) (k19 : Nat) (f19 : Nat → Int32) (k20 : Nat) (f20 : Nat → Int64) (k21 : Nat) (f21 : Nat → Int32) (k22 : Nat) (f22 : Nat → Int32) (o : Int32 × Int32 × Int32 × Int32 × Int32 × (Nat → Int32) × (Nat → Int32) × (Nat → Int64) × (Nat → Int64) × (Nat → Int64) × (Nat → Int32) × (Nat → Int64) × (Nat → Int64) × (Nat → Int64)) (hfn : fn_X12_check (b0 1) (b0 33) (c0 34) f1 f2 f3 f4 f5 f6 f7 f8 f9 f10 f11 f12 f13 f14 f15 f16 f17 f18 f19 f20 f21 f22 = some o) (sz : Nat) : zMi l yX12_check wsX12_check ({ frames := 5, cells := 0, slots := 0, locals := 134 }) (dC, dI) vwCl [.ref h0] [(h0, .inr (12, zO a0 b0 c0)), zVi (a0 17) k1 2 f1, zVi (a0 2) k2 5 f2, zVi (a0 0) k3 1200 f3, zVi (a0 60) k4 14 f4, zVl (a0 61) k5 14 f5, zVl (a0 62) k6 14 f6, zVl (a0 63) k7 14 f7, zVi (a0 12) k8 2 f8, zVi (a0 27) k9 28 f9, zVi (a0 25) k10 28 f10, zVi (a0 39) k11 14 f11, zVi (a0 19) k12 28 f12, zVi (a0 20) k13 28 f13, zVi (a0 21) k14 28 f14, zVl (a0 31) k15 14 f15, zVl (a0 22) k16 28 f16, zVl (a0 23) k17 28 f17, zVl (a0 32) k18 14 f18, zVi (a0 14) k19 8 f19, zVl (a0 40) k20 14 f20, zVi (a0 15) k21 8 f21, zVi (a0 26) k22 28 f22] [(k1, .int), (k2, .int), (k3, .int), (k4, .int), (k5, .long), (k6, .long), (k7, .long), (k8, .int), (k9, .int), (k10, .int), (k11, .int), (k12, .int), (k13, .int), (k14, .int), (k15, .long), (k16, .long), (k17, .long), (k18, .long), (k19, .int), (k20, .long), (k21, .int), (k22, .int)] (fun r _ => r = o.1 ∧ narrow .boolean (.int o.1) = .int o.1) [(h0, .inr (12, zO a0 (zI (zI (zI (zI b0 1 o.2.1) 33 o.2.2.1) 58 o.2.2.2.1) 59 o.2.2.2.2.1) c0)), zVi (a0 17) k1 2 f1, zVi (a0 2) k2 5 o.2.2.2.2.2.1, zVi (a0 0) k3 1200 f3, zVi (a0 60) k4 14 o.2.2.2.2.2.2.1, zVl (a0 61) k5 14 o.2.2.2.2.2.2.2.1, zVl (a0 62) k6 14 o.2.2.2.2.2.2.2.2.1, zVl (a0 63) k7 14 o.2.2.2.2.2.2.2.2.2.1, zVi (a0 12) k8 2 f8, zVi (a0 27) k9 28 f9, zVi (a0 25) k10 28 f10, zVi (a0 39) k11 14 o.2.2.2.2.2.2.2.2.2.2.1, zVi (a0 19) k12 28 f12, zVi (a0 20) k13 28 f13, zVi (a0 21) k14 28 f14, zVl (a0 31) k15 14 o.2.2.2.2.2.2.2.2.2.2.2.1, zVl (a0 22) k16 28 f16, zVl (a0 23) k17 28 f17, zVl (a0 32) k18 14 o.2.2.2.2.2.2.2.2.2.2.2.2.1, zVi (a0 14) k19 8 f19, zVl (a0 40) k20 14 o.2.2.2.2.2.2.2.2.2.2.2.2.2, zVi (a0 15) k21 8 f21, zVi (a0 26) k22 28 f22] [(k1, .int), (k2, .int), (k3, .int), (k4, .int), (k5, .long), (k6, .long), (k7, .long), (k8, .int), (k9, .int), (k10, .int), (k11, .int), (k12, .int), (k13, .int), (k14, .int), (k15, .long), (k16, .long), (k17, .long), (k18, .long), (k19, .int), (k20, .long), (k21, .int), (k22, .int)] sz := by
  refine zgoi (cc := cX12_check) (maxL := 4) (ret := (some .boolean)) (C0 := RX12) (lv0 := [(0, .ref h0)]) zpl_X12 rfl rfl rfl (Nat.le_of_ble_eq_true rfl) ?_
  intro p e s m below meth c A ls Q hx hb hr hts hown hlocks hml hP hK hD hA hS hl hQ
  unfold fn_X12_check at hfn
  refine lv_aload_n hx hb dX12_check_0 rfl (lv_at hl 0 rfl) ?_
  refine va_get (D := (dC, dI)) (ci := 12) (v := .int (b0 1)) (C := RX12) (T := TX12) (N := 67) hx hb hts zn_X12_check_X12 hown hK hP 0 rfl rfl 1 (of_decide_eq_true rfl) (hts (.fieldLink RX12 13 "ShortEnoughModel" "taped" "I") zw_X12_check_1342) (fun _ h9 => h9) rfl dX12_check_1 ?_
  refine lv_istore_n (lv' := [(1, .int (b0 1)), (0, .ref h0)]) hx hb dX12_check_4 rfl hl (of_decide_eq_true rfl) rfl (fun ls hl => ?_)
  refine lv_aload_n hx hb dX12_check_5 rfl (lv_at hl 1 rfl) ?_
  refine lv_iconst (v := 0) hx hb dX12_check_6 zci_0 ?_
  refine va_put (D := (dC, dI)) (ci := 12) (v := .int 0) (ty := .int) (C := RX12) (T := TX12) (N := 67) hx hb hts zn_X12_check_X12 tyX12 tyX12_ok nmX12 hown hK hP hD hS 0 rfl rfl 1 (of_decide_eq_true rfl) (hts (.fieldLink RX12 13 "ShortEnoughModel" "taped" "I") zw_X12_check_1342) (fun _ h9 => h9) rfl (tyX12_ok 1 (of_decide_eq_true rfl)) rfl rfl (Nat.le_of_ble_eq_true rfl) dX12_check_7 (fun H locs hP hD hS => ?_)
  have hP : va_P (dC, dI) vwCl [(h0, .inr (12, zO a0 (zI b0 1 0) c0)), zVi (a0 17) k1 2 f1, zVi (a0 2) k2 5 f2, zVi (a0 0) k3 1200 f3, zVi (a0 60) k4 14 f4, zVl (a0 61) k5 14 f5, zVl (a0 62) k6 14 f6, zVl (a0 63) k7 14 f7, zVi (a0 12) k8 2 f8, zVi (a0 27) k9 28 f9, zVi (a0 25) k10 28 f10, zVi (a0 39) k11 14 f11, zVi (a0 19) k12 28 f12, zVi (a0 20) k13 28 f13, zVi (a0 21) k14 28 f14, zVl (a0 31) k15 14 f15, zVl (a0 22) k16 28 f16, zVl (a0 23) k17 28 f17, zVl (a0 32) k18 14 f18, zVi (a0 14) k19 8 f19, zVl (a0 40) k20 14 f20, zVi (a0 15) k21 8 f21, zVi (a0 26) k22 28 f22] H := hP
  have hD := zDW hD hP rfl
  refine lv_aload_n hx hb dX12_check_10 rfl (lv_at hl 1 rfl) ?_
  refine lv_iconst (v := (-1)) hx hb dX12_check_11 zci_m1 ?_
  refine va_put (D := (dC, dI)) (ci := 12) (v := .int (-1)) (ty := .int) (C := RX12) (T := TX12) (N := 67) hx hb hts zn_X12_check_X12 tyX12 tyX12_ok nmX12 hown hK hP hD hS 0 rfl rfl 58 (of_decide_eq_true rfl) (hts (.fieldLink RX12 189 "ShortEnoughModel" "brokenAt" "I") zw_X12_check_1343) (fun _ h9 => h9) rfl (tyX12_ok 58 (of_decide_eq_true rfl)) rfl rfl (Nat.le_of_ble_eq_true rfl) dX12_check_12 (fun H locs hP hD hS => ?_)
  have hP : va_P (dC, dI) vwCl [(h0, .inr (12, zO a0 (zI (zI b0 1 0) 58 (-1)) c0)), zVi (a0 17) k1 2 f1, zVi (a0 2) k2 5 f2, zVi (a0 0) k3 1200 f3, zVi (a0 60) k4 14 f4, zVl (a0 61) k5 14 f5, zVl (a0 62) k6 14 f6, zVl (a0 63) k7 14 f7, zVi (a0 12) k8 2 f8, zVi (a0 27) k9 28 f9, zVi (a0 25) k10 28 f10, zVi (a0 39) k11 14 f11, zVi (a0 19) k12 28 f12, zVi (a0 20) k13 28 f13, zVi (a0 21) k14 28 f14, zVl (a0 31) k15 14 f15, zVl (a0 22) k16 28 f16, zVl (a0 23) k17 28 f17, zVl (a0 32) k18 14 f18, zVi (a0 14) k19 8 f19, zVl (a0 40) k20 14 f20, zVi (a0 15) k21 8 f21, zVi (a0 26) k22 28 f22] H := hP
  have hD := zDW hD hP rfl
  refine lv_aload_n hx hb dX12_check_15 rfl (lv_at hl 1 rfl) ?_
  refine lv_iconst (v := (-1)) hx hb dX12_check_16 zci_m1 ?_
  refine va_put (D := (dC, dI)) (ci := 12) (v := .int (-1)) (ty := .int) (C := RX12) (T := TX12) (N := 67) hx hb hts zn_X12_check_X12 tyX12 tyX12_ok nmX12 hown hK hP hD hS 0 rfl rfl 59 (of_decide_eq_true rfl) (hts (.fieldLink RX12 192 "ShortEnoughModel" "brokenWhy" "I") zw_X12_check_1344) (fun _ h9 => h9) rfl (tyX12_ok 59 (of_decide_eq_true rfl)) rfl rfl (Nat.le_of_ble_eq_true rfl) dX12_check_17 (fun H locs hP hD hS => ?_)
  have hP : va_P (dC, dI) vwCl [(h0, .inr (12, zO a0 (zI (zI (zI b0 1 0) 58 (-1)) 59 (-1)) c0)), zVi (a0 17) k1 2 f1, zVi (a0 2) k2 5 f2, zVi (a0 0) k3 1200 f3, zVi (a0 60) k4 14 f4, zVl (a0 61) k5 14 f5, zVl (a0 62) k6 14 f6, zVl (a0 63) k7 14 f7, zVi (a0 12) k8 2 f8, zVi (a0 27) k9 28 f9, zVi (a0 25) k10 28 f10, zVi (a0 39) k11 14 f11, zVi (a0 19) k12 28 f12, zVi (a0 20) k13 28 f13, zVi (a0 21) k14 28 f14, zVl (a0 31) k15 14 f15, zVl (a0 22) k16 28 f16, zVl (a0 23) k17 28 f17, zVl (a0 32) k18 14 f18, zVi (a0 14) k19 8 f19, zVl (a0 40) k20 14 f20, zVi (a0 15) k21 8 f21, zVi (a0 26) k22 28 f22] H := hP
  have hD := zDW hD hP rfl
  refine lv_aload_n hx hb dX12_check_20 rfl (lv_at hl 1 rfl) ?_
  refine va_get (D := (dC, dI)) (ci := 12) (v := .ref (a0 17)) (C := RX12) (T := TX12) (N := 67) hx hb hts zn_X12_check_X12 hown hK hP 0 rfl rfl 17 (of_decide_eq_true rfl) (hts (.fieldLink RX12 62 "ShortEnoughModel" "numbers" "[I") zw_X12_check_1345) (fun _ h9 => h9) rfl dX12_check_21 ?_
  refine lv_iconst (v := 0) hx hb dX12_check_24 zci_0 ?_
  refine va_iald hx hb hK hP 1 0 rfl rfl (zv_in (by decide +kernel)) dX12_check_25 ?_
  refine lv_if_eq (tgt := 42) hx hb dX12_check_26 (of_decide_eq_true rfl) (fun c_1 => ?_) (fun c_1 => ?_)
  · have hfn := (if_pos c_1).symm.trans hfn
    refine lv_aload_n hx hb dX12_check_42 rfl (lv_at hl 1 rfl) ?_
    refine lv_iconst (v := 3) hx hb dX12_check_43 zci_3 ?_
    obtain ⟨o_2, hqo_2, hfn⟩ := zb_s hfn
    refine zcVb (ci := 12) (rest := []) (pc' := 47) (ws' := [(h0, .inr (12, zO a0 (zI (zI (zI b0 1 0) 58 (-1)) 59 (-1)) c0)), zVi (a0 17) k1 2 f1, zVi (a0 2) k2 5 o_2.2, zVi (a0 0) k3 1200 f3, zVi (a0 60) k4 14 f4, zVl (a0 61) k5 14 f5, zVl (a0 62) k6 14 f6, zVl (a0 63) k7 14 f7, zVi (a0 12) k8 2 f8, zVi (a0 27) k9 28 f9, zVi (a0 25) k10 28 f10, zVi (a0 39) k11 14 f11, zVi (a0 19) k12 28 f12, zVi (a0 20) k13 28 f13, zVi (a0 21) k14 28 f14, zVl (a0 31) k15 14 f15, zVl (a0 22) k16 28 f16, zVl (a0 23) k17 28 f17, zVl (a0 32) k18 14 f18, zVi (a0 14) k19 8 f19, zVl (a0 40) k20 14 f20, zVi (a0 15) k21 8 f21, zVi (a0 26) k22 28 f22]) hP hK hD hS hA ⟨hx, hb, hml, hown, hts⟩ (zf_X12_isRefused l dC dI h0 3 a0 (zI (zI (zI b0 1 0) 58 (-1)) 59 (-1)) c0 k2 f2 o_2 hqo_2 H.size) (cwV 1 hts gX12_check_X12_isRefused rfl rfl rfl zhd_X12_isRefused ⟨Nat.le_of_ble_eq_true rfl, Nat.le_of_ble_eq_true rfl⟩) [0, 2] rfl (of_decide_eq_true rfl) [1] rfl rfl rfl rfl hl.1 rfl (Nat.le_of_ble_eq_true rfl) dX12_check_44 ⟨Nat.le_of_ble_eq_true rfl, Nat.le_of_ble_eq_true rfl⟩ [some 0, none, some 1] (of_decide_eq_true rfl) (of_decide_eq_true rfl) rfl rfl rfl (fun H locs hw_5n hP hD hS => ?_)
    have ho := Option.some.inj hfn
    subst ho
    exact zrz hx hb hr hw_5n hK hP hD hS hQ ⟨rfl, hw_5n⟩ hlocks dX12_check_47
  have hfn := (if_neg c_1).symm.trans hfn
  refine lv_iload_n hx hb dX12_check_29 rfl (lv_at hl 0 rfl) ?_
  refine lv_bipush (v := 25) hx hb dX12_check_30 zcb_25 ?_
  refine lv_aload_n hx hb dX12_check_32 rfl (lv_at hl 1 rfl) ?_
  refine va_get (D := (dC, dI)) (ci := 12) (v := .ref (a0 17)) (C := RX12) (T := TX12) (N := 67) hx hb hts zn_X12_check_X12 hown hK hP 0 rfl rfl 17 (of_decide_eq_true rfl) (hts (.fieldLink RX12 62 "ShortEnoughModel" "numbers" "[I") zw_X12_check_1345) (fun _ h9 => h9) rfl dX12_check_33 ?_
  refine lv_iconst (v := 0) hx hb dX12_check_36 zci_0 ?_
  refine va_iald hx hb hK hP 1 0 rfl rfl (zv_in (by decide +kernel)) dX12_check_37 ?_
  refine lv_imul hx hb dX12_check_38 ?_
  refine lv_icmp_eq (tgt := 48) hx hb dX12_check_39 (of_decide_eq_true rfl) (fun c_6 => ?_) (fun c_6 => ?_)
  · have hfn := (if_pos c_6).symm.trans hfn
    refine lv_aload_n hx hb dX12_check_48 rfl (lv_at hl 1 rfl) ?_
    refine lv_iconst (v := (-1)) hx hb dX12_check_49 zci_m1 ?_
    refine va_put (D := (dC, dI)) (ci := 12) (v := .int (-1)) (ty := .int) (C := RX12) (T := TX12) (N := 67) hx hb hts zn_X12_check_X12 tyX12 tyX12_ok nmX12 hown hK hP hD hS 0 rfl rfl 33 (of_decide_eq_true rfl) (hts (.fieldLink RX12 112 "ShortEnoughModel" "wideNumber" "I") zw_X12_check_1346) (fun _ h9 => h9) rfl (tyX12_ok 33 (of_decide_eq_true rfl)) rfl rfl (Nat.le_of_ble_eq_true rfl) dX12_check_50 (fun H locs hP hD hS => ?_)
    have hP : va_P (dC, dI) vwCl [(h0, .inr (12, zO a0 (zI (zI (zI (zI b0 1 0) 33 (-1)) 58 (-1)) 59 (-1)) c0)), zVi (a0 17) k1 2 f1, zVi (a0 2) k2 5 f2, zVi (a0 0) k3 1200 f3, zVi (a0 60) k4 14 f4, zVl (a0 61) k5 14 f5, zVl (a0 62) k6 14 f6, zVl (a0 63) k7 14 f7, zVi (a0 12) k8 2 f8, zVi (a0 27) k9 28 f9, zVi (a0 25) k10 28 f10, zVi (a0 39) k11 14 f11, zVi (a0 19) k12 28 f12, zVi (a0 20) k13 28 f13, zVi (a0 21) k14 28 f14, zVl (a0 31) k15 14 f15, zVl (a0 22) k16 28 f16, zVl (a0 23) k17 28 f17, zVl (a0 32) k18 14 f18, zVi (a0 14) k19 8 f19, zVl (a0 40) k20 14 f20, zVi (a0 15) k21 8 f21, zVi (a0 26) k22 28 f22] H := hP
    have hD := zDW hD hP rfl
    refine lv_iconst (v := 0) hx hb dX12_check_53 zci_0 ?_
    refine lv_istore_n (lv' := [(2, .int 0), (1, .int (b0 1)), (0, .ref h0)]) hx hb dX12_check_54 rfl hl (of_decide_eq_true rfl) rfl (fun ls hl => ?_)
    obtain ⟨bd_7, ebd_7, hfn⟩ := zl_g hfn
    have lp_7 : ∀ (n : Nat) (s_7 : Int32 × (Nat → Int32) × (Nat → Int64) × (Nat → Int64) × (Nat → Int64)) (H : Heap) (locs : List Loc) (ls : Array Slot), zl bd_7 n s_7 = some o → va_P (dC, dI) vwCl [(h0, .inr (12, zO a0 (zI (zI (zI (zI b0 1 0) 33 (-1)) 58 (-1)) 59 (-1)) c0)), zVi (a0 17) k1 2 f1, zVi (a0 2) k2 5 f2, zVi (a0 0) k3 1200 f3, zVi (a0 60) k4 14 s_7.2.1, zVl (a0 61) k5 14 s_7.2.2.1, zVl (a0 62) k6 14 s_7.2.2.2.1, zVl (a0 63) k7 14 s_7.2.2.2.2, zVi (a0 12) k8 2 f8, zVi (a0 27) k9 28 f9, zVi (a0 25) k10 28 f10, zVi (a0 39) k11 14 f11, zVi (a0 19) k12 28 f12, zVi (a0 20) k13 28 f13, zVi (a0 21) k14 28 f14, zVl (a0 31) k15 14 f15, zVl (a0 22) k16 28 f16, zVl (a0 23) k17 28 f17, zVl (a0 32) k18 14 f18, zVi (a0 14) k19 8 f19, zVl (a0 40) k20 14 f20, zVi (a0 15) k21 8 f21, zVi (a0 26) k22 28 f22] H → va_D A [(h0, .inr (12, zO a0 (zI (zI (zI (zI b0 1 0) 33 (-1)) 58 (-1)) 59 (-1)) c0)), zVi (a0 17) k1 2 f1, zVi (a0 2) k2 5 f2, zVi (a0 0) k3 1200 f3, zVi (a0 60) k4 14 s_7.2.1, zVl (a0 61) k5 14 s_7.2.2.1, zVl (a0 62) k6 14 s_7.2.2.2.1, zVl (a0 63) k7 14 s_7.2.2.2.2, zVi (a0 12) k8 2 f8, zVi (a0 27) k9 28 f9, zVi (a0 25) k10 28 f10, zVi (a0 39) k11 14 f11, zVi (a0 19) k12 28 f12, zVi (a0 20) k13 28 f13, zVi (a0 21) k14 28 f14, zVl (a0 31) k15 14 f15, zVl (a0 22) k16 28 f16, zVl (a0 23) k17 28 f17, zVl (a0 32) k18 14 f18, zVi (a0 14) k19 8 f19, zVl (a0 40) k20 14 f20, zVi (a0 15) k21 8 f21, zVi (a0 26) k22 28 f22] → va_S A s.heap H locs → lv_has ls 4 [(2, .int s_7.1), (0, .ref h0)] → W p l e (headSpec wsX12_check ({ frames := 5, cells := 0, slots := 0, locals := 134 })).room s m ([.ref h0] : List Value).toArray below meth c H locs 0 0 Q (F0 m 55 ls []) := by
      intro n
      induction n with
      | zero => exact fun _ _ _ _ hfn => (zl_0 hfn).elim
      | succ n ih_7 =>
        intro s_7 H locs ls hfn hP hD hS hl
        have hfn := zl_s ebd_7 hfn
        refine lv_iload_n hx hb dX12_check_55 rfl (lv_at hl 0 rfl) ?_
        refine lv_aload_n hx hb dX12_check_56 rfl (lv_at hl 1 rfl) ?_
        refine va_get (D := (dC, dI)) (ci := 12) (v := .ref (a0 17)) (C := RX12) (T := TX12) (N := 67) hx hb hts zn_X12_check_X12 hown hK hP 0 rfl rfl 17 (of_decide_eq_true rfl) (hts (.fieldLink RX12 62 "ShortEnoughModel" "numbers" "[I") zw_X12_check_1345) (fun _ h9 => h9) rfl dX12_check_57 ?_
        refine lv_iconst (v := 0) hx hb dX12_check_60 zci_0 ?_
        refine va_iald hx hb hK hP 1 0 rfl rfl (zv_in (by decide +kernel)) dX12_check_61 ?_
        refine lv_icmp_ge (tgt := 136) hx hb dX12_check_62 (of_decide_eq_true rfl) (fun c_8 => ?_) (fun c_8 => ?_)
        · have hfn := (if_pos c_8).symm.trans hfn
          refine lv_iconst (v := 0) hx hb dX12_check_136 zci_0 ?_
          refine lv_istore_n (lv' := [(2, .int 0), (0, .ref h0)]) hx hb dX12_check_137 rfl hl (of_decide_eq_true rfl) rfl (fun ls hl => ?_)
          obtain ⟨bd_9, ebd_9, hfn⟩ := zl_g hfn
          have lp_9 : ∀ (n : Nat) (s_9 : Int32 × (Nat → Int64) × (Nat → Int64) × (Nat → Int32) × (Nat → Int64)) (H : Heap) (locs : List Loc) (ls : Array Slot), zl bd_9 n s_9 = some o → va_P (dC, dI) vwCl [(h0, .inr (12, zO a0 (zI (zI (zI (zI b0 1 0) 33 (-1)) 58 (-1)) 59 (-1)) c0)), zVi (a0 17) k1 2 f1, zVi (a0 2) k2 5 f2, zVi (a0 0) k3 1200 f3, zVi (a0 60) k4 14 s_7.2.1, zVl (a0 61) k5 14 s_7.2.2.1, zVl (a0 62) k6 14 s_7.2.2.2.1, zVl (a0 63) k7 14 s_7.2.2.2.2, zVi (a0 12) k8 2 f8, zVi (a0 27) k9 28 f9, zVi (a0 25) k10 28 f10, zVi (a0 39) k11 14 s_9.2.2.2.1, zVi (a0 19) k12 28 f12, zVi (a0 20) k13 28 f13, zVi (a0 21) k14 28 f14, zVl (a0 31) k15 14 s_9.2.1, zVl (a0 22) k16 28 f16, zVl (a0 23) k17 28 f17, zVl (a0 32) k18 14 s_9.2.2.1, zVi (a0 14) k19 8 f19, zVl (a0 40) k20 14 s_9.2.2.2.2, zVi (a0 15) k21 8 f21, zVi (a0 26) k22 28 f22] H → va_D A [(h0, .inr (12, zO a0 (zI (zI (zI (zI b0 1 0) 33 (-1)) 58 (-1)) 59 (-1)) c0)), zVi (a0 17) k1 2 f1, zVi (a0 2) k2 5 f2, zVi (a0 0) k3 1200 f3, zVi (a0 60) k4 14 s_7.2.1, zVl (a0 61) k5 14 s_7.2.2.1, zVl (a0 62) k6 14 s_7.2.2.2.1, zVl (a0 63) k7 14 s_7.2.2.2.2, zVi (a0 12) k8 2 f8, zVi (a0 27) k9 28 f9, zVi (a0 25) k10 28 f10, zVi (a0 39) k11 14 s_9.2.2.2.1, zVi (a0 19) k12 28 f12, zVi (a0 20) k13 28 f13, zVi (a0 21) k14 28 f14, zVl (a0 31) k15 14 s_9.2.1, zVl (a0 22) k16 28 f16, zVl (a0 23) k17 28 f17, zVl (a0 32) k18 14 s_9.2.2.1, zVi (a0 14) k19 8 f19, zVl (a0 40) k20 14 s_9.2.2.2.2, zVi (a0 15) k21 8 f21, zVi (a0 26) k22 28 f22] → va_S A s.heap H locs → lv_has ls 4 [(2, .int s_9.1), (0, .ref h0)] → W p l e (headSpec wsX12_check ({ frames := 5, cells := 0, slots := 0, locals := 134 })).room s m ([.ref h0] : List Value).toArray below meth c H locs 0 0 Q (F0 m 138 ls []) := by
            intro n
            induction n with
            | zero => exact fun _ _ _ _ hfn => (zl_0 hfn).elim
            | succ n ih_9 =>
              intro s_9 H locs ls hfn hP hD hS hl
              have hfn := zl_s ebd_9 hfn
              refine lv_iload_n hx hb dX12_check_138 rfl (lv_at hl 0 rfl) ?_
              refine lv_aload_n hx hb dX12_check_139 rfl (lv_at hl 1 rfl) ?_
              refine va_get (D := (dC, dI)) (ci := 12) (v := .ref (a0 17)) (C := RX12) (T := TX12) (N := 67) hx hb hts zn_X12_check_X12 hown hK hP 0 rfl rfl 17 (of_decide_eq_true rfl) (hts (.fieldLink RX12 62 "ShortEnoughModel" "numbers" "[I") zw_X12_check_1345) (fun _ h9 => h9) rfl dX12_check_140 ?_
              refine lv_iconst (v := 0) hx hb dX12_check_143 zci_0 ?_
              refine va_iald hx hb hK hP 1 0 rfl rfl (zv_in (by decide +kernel)) dX12_check_144 ?_
              refine lv_icmp_ge (tgt := 183) hx hb dX12_check_145 (of_decide_eq_true rfl) (fun c_10 => ?_) (fun c_10 => ?_)
              · have hfn := (if_pos c_10).symm.trans hfn
                refine lv_aload_n hx hb dX12_check_183 rfl (lv_at hl 1 rfl) ?_
                refine lv_bipush (v := (-2)) hx hb dX12_check_184 zcb_m2 ?_
                refine va_put (D := (dC, dI)) (ci := 12) (v := .int (-2)) (ty := .int) (C := RX12) (T := TX12) (N := 67) hx hb hts zn_X12_check_X12 tyX12 tyX12_ok nmX12 hown hK hP hD hS 0 rfl rfl 58 (of_decide_eq_true rfl) (hts (.fieldLink RX12 189 "ShortEnoughModel" "brokenAt" "I") zw_X12_check_1343) (fun _ h9 => h9) rfl (tyX12_ok 58 (of_decide_eq_true rfl)) rfl rfl (Nat.le_of_ble_eq_true rfl) dX12_check_186 (fun H locs hP hD hS => ?_)
                have hP : va_P (dC, dI) vwCl [(h0, .inr (12, zO a0 (zI (zI (zI (zI b0 1 0) 33 (-1)) 58 (-2)) 59 (-1)) c0)), zVi (a0 17) k1 2 f1, zVi (a0 2) k2 5 f2, zVi (a0 0) k3 1200 f3, zVi (a0 60) k4 14 s_7.2.1, zVl (a0 61) k5 14 s_7.2.2.1, zVl (a0 62) k6 14 s_7.2.2.2.1, zVl (a0 63) k7 14 s_7.2.2.2.2, zVi (a0 12) k8 2 f8, zVi (a0 27) k9 28 f9, zVi (a0 25) k10 28 f10, zVi (a0 39) k11 14 s_9.2.2.2.1, zVi (a0 19) k12 28 f12, zVi (a0 20) k13 28 f13, zVi (a0 21) k14 28 f14, zVl (a0 31) k15 14 s_9.2.1, zVl (a0 22) k16 28 f16, zVl (a0 23) k17 28 f17, zVl (a0 32) k18 14 s_9.2.2.1, zVi (a0 14) k19 8 f19, zVl (a0 40) k20 14 s_9.2.2.2.2, zVi (a0 15) k21 8 f21, zVi (a0 26) k22 28 f22] H := hP
                have hD := zDW hD hP rfl
                refine lv_aload_n hx hb dX12_check_189 rfl (lv_at hl 1 rfl) ?_
                refine lv_iconst (v := 0) hx hb dX12_check_190 zci_0 ?_
                refine va_put (D := (dC, dI)) (ci := 12) (v := .int 0) (ty := .int) (C := RX12) (T := TX12) (N := 67) hx hb hts zn_X12_check_X12 tyX12 tyX12_ok nmX12 hown hK hP hD hS 0 rfl rfl 59 (of_decide_eq_true rfl) (hts (.fieldLink RX12 192 "ShortEnoughModel" "brokenWhy" "I") zw_X12_check_1344) (fun _ h9 => h9) rfl (tyX12_ok 59 (of_decide_eq_true rfl)) rfl rfl (Nat.le_of_ble_eq_true rfl) dX12_check_191 (fun H locs hP hD hS => ?_)
                have hP : va_P (dC, dI) vwCl [(h0, .inr (12, zO a0 (zI (zI (zI (zI b0 1 0) 33 (-1)) 58 (-2)) 59 0) c0)), zVi (a0 17) k1 2 f1, zVi (a0 2) k2 5 f2, zVi (a0 0) k3 1200 f3, zVi (a0 60) k4 14 s_7.2.1, zVl (a0 61) k5 14 s_7.2.2.1, zVl (a0 62) k6 14 s_7.2.2.2.1, zVl (a0 63) k7 14 s_7.2.2.2.2, zVi (a0 12) k8 2 f8, zVi (a0 27) k9 28 f9, zVi (a0 25) k10 28 f10, zVi (a0 39) k11 14 s_9.2.2.2.1, zVi (a0 19) k12 28 f12, zVi (a0 20) k13 28 f13, zVi (a0 21) k14 28 f14, zVl (a0 31) k15 14 s_9.2.1, zVl (a0 22) k16 28 f16, zVl (a0 23) k17 28 f17, zVl (a0 32) k18 14 s_9.2.2.1, zVi (a0 14) k19 8 f19, zVl (a0 40) k20 14 s_9.2.2.2.2, zVi (a0 15) k21 8 f21, zVi (a0 26) k22 28 f22] H := hP
                have hD := zDW hD hP rfl
                refine lv_iconst (v := 1) hx hb dX12_check_194 zci_1 ?_
                have ho := Option.some.inj hfn
                subst ho
                exact zrz hx hb hr rfl hK hP hD hS hQ ⟨rfl, zB1⟩ hlocks dX12_check_195
              have hfn := (if_neg c_10).symm.trans hfn
              refine lv_aload_n hx hb dX12_check_148 rfl (lv_at hl 1 rfl) ?_
              refine lv_iload_n hx hb dX12_check_149 rfl (lv_at hl 0 rfl) ?_
              obtain ⟨o_11, hqo_11, hfn⟩ := zb_s hfn
              refine zcVi (ci := 12) (rest := []) (pc' := 153) (ws' := [(h0, .inr (12, zO a0 (zI (zI (zI (zI b0 1 0) 33 (-1)) 58 (-1)) 59 (-1)) c0)), zVi (a0 17) k1 2 f1, zVi (a0 2) k2 5 f2, zVi (a0 0) k3 1200 f3, zVi (a0 60) k4 14 s_7.2.1, zVl (a0 61) k5 14 s_7.2.2.1, zVl (a0 62) k6 14 s_7.2.2.2.1, zVl (a0 63) k7 14 s_7.2.2.2.2, zVi (a0 12) k8 2 f8, zVi (a0 27) k9 28 f9, zVi (a0 25) k10 28 f10, zVi (a0 39) k11 14 o_11.2.1, zVi (a0 19) k12 28 f12, zVi (a0 20) k13 28 f13, zVi (a0 21) k14 28 f14, zVl (a0 31) k15 14 o_11.2.2.1, zVl (a0 22) k16 28 f16, zVl (a0 23) k17 28 f17, zVl (a0 32) k18 14 o_11.2.2.2.1, zVi (a0 14) k19 8 f19, zVl (a0 40) k20 14 o_11.2.2.2.2, zVi (a0 15) k21 8 f21, zVi (a0 26) k22 28 f22]) hP hK hD hS hA ⟨hx, hb, hml, hown, hts⟩ (zf_X12_breaks l dC dI h0 s_9.1 a0 (zI (zI (zI (zI b0 1 0) 33 (-1)) 58 (-1)) 59 (-1)) c0 k4 s_7.2.1 k8 f8 k1 f1 k9 f9 k10 f10 k11 s_9.2.2.2.1 k12 f12 k13 f13 k14 f14 k15 s_9.2.1 k16 f16 k17 f17 k18 s_9.2.2.1 k19 f19 k20 s_9.2.2.2.2 k5 s_7.2.2.1 k6 s_7.2.2.2.1 k7 s_7.2.2.2.2 k21 f21 k22 f22 o_11 hqo_11 H.size) (cwV 1 hts gX12_check_X12_breaks rfl rfl rfl zhd_X12_breaks ⟨Nat.le_of_ble_eq_true rfl, Nat.le_of_ble_eq_true rfl⟩) [0, 4, 8, 1, 9, 10, 11, 12, 13, 14, 15, 16, 17, 18, 19, 20, 5, 6, 7, 21, 22] rfl (of_decide_eq_true rfl) [3, 7, 0, 8, 9, 10, 11, 12, 13, 14, 15, 16, 17, 18, 19, 4, 5, 6, 20, 21] rfl rfl rfl rfl hl.1 rfl (Nat.le_of_ble_eq_true rfl) dX12_check_150 ⟨Nat.le_of_ble_eq_true rfl, Nat.le_of_ble_eq_true rfl⟩ [some 0, some 3, none, none, some 1, some 16, some 17, some 18, some 2, some 4, some 5, some 6, some 7, some 8, some 9, some 10, some 11, some 12, some 13, some 14, some 15, some 19, some 20] (of_decide_eq_true rfl) (of_decide_eq_true rfl) rfl rfl rfl (fun H locs hP hD hS => ?_)
              refine lv_istore_n (lv' := [(3, .int o_11.1), (2, .int s_9.1), (0, .ref h0)]) hx hb dX12_check_153 rfl hl (of_decide_eq_true rfl) rfl (fun ls hl => ?_)
              refine lv_iload_n hx hb dX12_check_154 rfl (lv_at hl 0 rfl) ?_
              refine lv_if_ne (tgt := 161) hx hb dX12_check_155 (of_decide_eq_true rfl) (fun c_15 => ?_) (fun c_15 => ?_)
              · have hfn := (if_neg c_15).symm.trans hfn
                refine lv_aload_n hx hb dX12_check_161 rfl (lv_at hl 2 rfl) ?_
                refine lv_iload_n hx hb dX12_check_162 rfl (lv_at hl 1 rfl) ?_
                refine va_put (D := (dC, dI)) (ci := 12) (v := .int s_9.1) (ty := .int) (C := RX12) (T := TX12) (N := 67) hx hb hts zn_X12_check_X12 tyX12 tyX12_ok nmX12 hown hK hP hD hS 0 rfl rfl 58 (of_decide_eq_true rfl) (hts (.fieldLink RX12 189 "ShortEnoughModel" "brokenAt" "I") zw_X12_check_1343) (fun _ h9 => h9) rfl (tyX12_ok 58 (of_decide_eq_true rfl)) rfl rfl (Nat.le_of_ble_eq_true rfl) dX12_check_163 (fun H locs hP hD hS => ?_)
                have hP : va_P (dC, dI) vwCl [(h0, .inr (12, zO a0 (zI (zI (zI (zI b0 1 0) 33 (-1)) 58 s_9.1) 59 (-1)) c0)), zVi (a0 17) k1 2 f1, zVi (a0 2) k2 5 f2, zVi (a0 0) k3 1200 f3, zVi (a0 60) k4 14 s_7.2.1, zVl (a0 61) k5 14 s_7.2.2.1, zVl (a0 62) k6 14 s_7.2.2.2.1, zVl (a0 63) k7 14 s_7.2.2.2.2, zVi (a0 12) k8 2 f8, zVi (a0 27) k9 28 f9, zVi (a0 25) k10 28 f10, zVi (a0 39) k11 14 o_11.2.1, zVi (a0 19) k12 28 f12, zVi (a0 20) k13 28 f13, zVi (a0 21) k14 28 f14, zVl (a0 31) k15 14 o_11.2.2.1, zVl (a0 22) k16 28 f16, zVl (a0 23) k17 28 f17, zVl (a0 32) k18 14 o_11.2.2.2.1, zVi (a0 14) k19 8 f19, zVl (a0 40) k20 14 o_11.2.2.2.2, zVi (a0 15) k21 8 f21, zVi (a0 26) k22 28 f22] H := hP
                have hD := zDW hD hP rfl
                refine lv_aload_n hx hb dX12_check_166 rfl (lv_at hl 2 rfl) ?_
                refine lv_iload_n hx hb dX12_check_167 rfl (lv_at hl 0 rfl) ?_
                refine va_put (D := (dC, dI)) (ci := 12) (v := .int o_11.1) (ty := .int) (C := RX12) (T := TX12) (N := 67) hx hb hts zn_X12_check_X12 tyX12 tyX12_ok nmX12 hown hK hP hD hS 0 rfl rfl 59 (of_decide_eq_true rfl) (hts (.fieldLink RX12 192 "ShortEnoughModel" "brokenWhy" "I") zw_X12_check_1344) (fun _ h9 => h9) rfl (tyX12_ok 59 (of_decide_eq_true rfl)) rfl rfl (Nat.le_of_ble_eq_true rfl) dX12_check_168 (fun H locs hP hD hS => ?_)
                have hP : va_P (dC, dI) vwCl [(h0, .inr (12, zO a0 (zI (zI (zI (zI b0 1 0) 33 (-1)) 58 s_9.1) 59 o_11.1) c0)), zVi (a0 17) k1 2 f1, zVi (a0 2) k2 5 f2, zVi (a0 0) k3 1200 f3, zVi (a0 60) k4 14 s_7.2.1, zVl (a0 61) k5 14 s_7.2.2.1, zVl (a0 62) k6 14 s_7.2.2.2.1, zVl (a0 63) k7 14 s_7.2.2.2.2, zVi (a0 12) k8 2 f8, zVi (a0 27) k9 28 f9, zVi (a0 25) k10 28 f10, zVi (a0 39) k11 14 o_11.2.1, zVi (a0 19) k12 28 f12, zVi (a0 20) k13 28 f13, zVi (a0 21) k14 28 f14, zVl (a0 31) k15 14 o_11.2.2.1, zVl (a0 22) k16 28 f16, zVl (a0 23) k17 28 f17, zVl (a0 32) k18 14 o_11.2.2.2.1, zVi (a0 14) k19 8 f19, zVl (a0 40) k20 14 o_11.2.2.2.2, zVi (a0 15) k21 8 f21, zVi (a0 26) k22 28 f22] H := hP
                have hD := zDW hD hP rfl
                refine lv_aload_n hx hb dX12_check_171 rfl (lv_at hl 2 rfl) ?_
                refine lv_iconst (v := 3) hx hb dX12_check_172 zci_3 ?_
                obtain ⟨o_16, hqo_16, hfn⟩ := zb_s hfn
                refine zcVb (ci := 12) (rest := []) (pc' := 176) (ws' := [(h0, .inr (12, zO a0 (zI (zI (zI (zI b0 1 0) 33 (-1)) 58 s_9.1) 59 o_11.1) c0)), zVi (a0 17) k1 2 f1, zVi (a0 2) k2 5 o_16.2, zVi (a0 0) k3 1200 f3, zVi (a0 60) k4 14 s_7.2.1, zVl (a0 61) k5 14 s_7.2.2.1, zVl (a0 62) k6 14 s_7.2.2.2.1, zVl (a0 63) k7 14 s_7.2.2.2.2, zVi (a0 12) k8 2 f8, zVi (a0 27) k9 28 f9, zVi (a0 25) k10 28 f10, zVi (a0 39) k11 14 o_11.2.1, zVi (a0 19) k12 28 f12, zVi (a0 20) k13 28 f13, zVi (a0 21) k14 28 f14, zVl (a0 31) k15 14 o_11.2.2.1, zVl (a0 22) k16 28 f16, zVl (a0 23) k17 28 f17, zVl (a0 32) k18 14 o_11.2.2.2.1, zVi (a0 14) k19 8 f19, zVl (a0 40) k20 14 o_11.2.2.2.2, zVi (a0 15) k21 8 f21, zVi (a0 26) k22 28 f22]) hP hK hD hS hA ⟨hx, hb, hml, hown, hts⟩ (zf_X12_isRefused l dC dI h0 3 a0 (zI (zI (zI (zI b0 1 0) 33 (-1)) 58 s_9.1) 59 o_11.1) c0 k2 f2 o_16 hqo_16 H.size) (cwV 1 hts gX12_check_X12_isRefused rfl rfl rfl zhd_X12_isRefused ⟨Nat.le_of_ble_eq_true rfl, Nat.le_of_ble_eq_true rfl⟩) [0, 2] rfl (of_decide_eq_true rfl) [1] rfl rfl rfl rfl hl.1 rfl (Nat.le_of_ble_eq_true rfl) dX12_check_173 ⟨Nat.le_of_ble_eq_true rfl, Nat.le_of_ble_eq_true rfl⟩ [some 0, none, some 1] (of_decide_eq_true rfl) (of_decide_eq_true rfl) rfl rfl rfl (fun H locs hw_19n hP hD hS => ?_)
                have ho := Option.some.inj hfn
                subst ho
                exact zrz hx hb hr hw_19n hK hP hD hS hQ ⟨rfl, hw_19n⟩ hlocks dX12_check_176
              have hfn := (if_pos c_15).symm.trans hfn
              refine lv_goto (tgt := 177) hx hb dX12_check_158 (of_decide_eq_true rfl) ?_
              refine lv_iinc (v := (s_9.1 + 1)) (lv' := [(2, .int (s_9.1 + 1)), (3, .int o_11.1), (0, .ref h0)]) hx hb dX12_check_177 hl (k := 1) rfl rfl (of_decide_eq_true rfl) rfl (fun ls hl => ?_)
              refine lv_goto (tgt := 138) hx hb dX12_check_180 (of_decide_eq_true rfl) ?_
              exact ih_9 ((s_9.1 + 1), o_11.2.2.1, o_11.2.2.2.1, o_11.2.1, o_11.2.2.2.2) H locs ls hfn hP hD hS (lv_sub hl [0, 2] rfl)
          exact lp_9 _ (0, f15, f18, f11, f20) H locs ls hfn hP hD hS (lv_sub hl [0, 1] rfl)
        have hfn := (if_neg c_8).symm.trans hfn
        refine lv_aload_n hx hb dX12_check_65 rfl (lv_at hl 1 rfl) ?_
        refine va_get (D := (dC, dI)) (ci := 12) (v := .ref (a0 60)) (C := RX12) (T := TX12) (N := 67) hx hb hts zn_X12_check_X12 hown hK hP 0 rfl rfl 60 (of_decide_eq_true rfl) (hts (.fieldLink RX12 195 "ShortEnoughModel" "saysFormat" "[I") zw_X12_check_1347) (fun _ h9 => h9) rfl dX12_check_66 ?_
        refine lv_iload_n hx hb dX12_check_69 rfl (lv_at hl 0 rfl) ?_
        refine lv_aload_n hx hb dX12_check_70 rfl (lv_at hl 1 rfl) ?_
        refine va_get (D := (dC, dI)) (ci := 12) (v := .ref (a0 0)) (C := RX12) (T := TX12) (N := 67) hx hb hts zn_X12_check_X12 hown hK hP 0 rfl rfl 0 (of_decide_eq_true rfl) (hts (.fieldLink RX12 7 "ShortEnoughModel" "tape" "[I") zw_X12_check_1348) (fun _ h9 => h9) rfl dX12_check_71 ?_
        refine lv_bipush (v := 25) hx hb dX12_check_74 zcb_25 ?_
        refine lv_iload_n hx hb dX12_check_76 rfl (lv_at hl 0 rfl) ?_
        refine lv_imul hx hb dX12_check_77 ?_
        obtain ⟨h_20, hfn⟩ := zg_s hfn
        refine va_iald hx hb hK hP 3 2 rfl rfl h_20 dX12_check_78 ?_
        obtain ⟨h_21, hfn⟩ := zg_s hfn
        refine va_iast hx hb hK hP hD hS 4 3 rfl rfl h_21 dX12_check_79 (fun H locs hP hD hS => ?_)
        obtain ⟨g_22, eg_22⟩ : ∃ g : Nat → Int32, g = (upd s_7.2.1 s_7.1.toNatClampNeg (f3 (25 * s_7.1).toNatClampNeg)) := ⟨_, rfl⟩
        have hfn := zn_s hfn eg_22
        have hP : va_P (dC, dI) vwCl [(h0, .inr (12, zO a0 (zI (zI (zI (zI b0 1 0) 33 (-1)) 58 (-1)) 59 (-1)) c0)), zVi (a0 17) k1 2 f1, zVi (a0 2) k2 5 f2, zVi (a0 0) k3 1200 f3, zVi (a0 60) k4 14 g_22, zVl (a0 61) k5 14 s_7.2.2.1, zVl (a0 62) k6 14 s_7.2.2.2.1, zVl (a0 63) k7 14 s_7.2.2.2.2, zVi (a0 12) k8 2 f8, zVi (a0 27) k9 28 f9, zVi (a0 25) k10 28 f10, zVi (a0 39) k11 14 f11, zVi (a0 19) k12 28 f12, zVi (a0 20) k13 28 f13, zVi (a0 21) k14 28 f14, zVl (a0 31) k15 14 f15, zVl (a0 22) k16 28 f16, zVl (a0 23) k17 28 f17, zVl (a0 32) k18 14 f18, zVi (a0 14) k19 8 f19, zVl (a0 40) k20 14 f20, zVi (a0 15) k21 8 f21, zVi (a0 26) k22 28 f22] H := by rw [eg_22]; exact hP
        have hD : va_D A [(h0, .inr (12, zO a0 (zI (zI (zI (zI b0 1 0) 33 (-1)) 58 (-1)) 59 (-1)) c0)), zVi (a0 17) k1 2 f1, zVi (a0 2) k2 5 f2, zVi (a0 0) k3 1200 f3, zVi (a0 60) k4 14 g_22, zVl (a0 61) k5 14 s_7.2.2.1, zVl (a0 62) k6 14 s_7.2.2.2.1, zVl (a0 63) k7 14 s_7.2.2.2.2, zVi (a0 12) k8 2 f8, zVi (a0 27) k9 28 f9, zVi (a0 25) k10 28 f10, zVi (a0 39) k11 14 f11, zVi (a0 19) k12 28 f12, zVi (a0 20) k13 28 f13, zVi (a0 21) k14 28 f14, zVl (a0 31) k15 14 f15, zVl (a0 22) k16 28 f16, zVl (a0 23) k17 28 f17, zVl (a0 32) k18 14 f18, zVi (a0 14) k19 8 f19, zVl (a0 40) k20 14 f20, zVi (a0 15) k21 8 f21, zVi (a0 26) k22 28 f22] := by rw [eg_22]; exact hD
        refine lv_aload_n hx hb dX12_check_80 rfl (lv_at hl 1 rfl) ?_
        refine va_get (D := (dC, dI)) (ci := 12) (v := .ref (a0 61)) (C := RX12) (T := TX12) (N := 67) hx hb hts zn_X12_check_X12 hown hK hP 0 rfl rfl 61 (of_decide_eq_true rfl) (hts (.fieldLink RX12 198 "ShortEnoughModel" "saysLeast" "[J") zw_X12_check_1349) (fun _ h9 => h9) rfl dX12_check_81 ?_
        refine lv_iload_n hx hb dX12_check_84 rfl (lv_at hl 0 rfl) ?_
        refine lv_aload_n hx hb dX12_check_85 rfl (lv_at hl 1 rfl) ?_
        refine lv_bipush (v := 25) hx hb dX12_check_86 zcb_25 ?_
        refine lv_iload_n hx hb dX12_check_88 rfl (lv_at hl 0 rfl) ?_
        refine lv_imul hx hb dX12_check_89 ?_
        refine lv_iconst (v := 1) hx hb dX12_check_90 zci_1 ?_
        refine lv_iadd hx hb dX12_check_91 ?_
        obtain ⟨o_23, hqo_23, hfn⟩ := zb_s hfn
        refine zcVl (ci := 12) (rest := [.int s_7.1, .ref (a0 61)]) (pc' := 95) (ws' := [(h0, .inr (12, zO a0 (zI (zI (zI (zI b0 1 0) 33 (-1)) 58 (-1)) 59 (-1)) c0)), zVi (a0 17) k1 2 f1, zVi (a0 2) k2 5 f2, zVi (a0 0) k3 1200 f3, zVi (a0 60) k4 14 g_22, zVl (a0 61) k5 14 s_7.2.2.1, zVl (a0 62) k6 14 s_7.2.2.2.1, zVl (a0 63) k7 14 s_7.2.2.2.2, zVi (a0 12) k8 2 f8, zVi (a0 27) k9 28 f9, zVi (a0 25) k10 28 f10, zVi (a0 39) k11 14 f11, zVi (a0 19) k12 28 f12, zVi (a0 20) k13 28 f13, zVi (a0 21) k14 28 f14, zVl (a0 31) k15 14 f15, zVl (a0 22) k16 28 f16, zVl (a0 23) k17 28 f17, zVl (a0 32) k18 14 f18, zVi (a0 14) k19 8 f19, zVl (a0 40) k20 14 f20, zVi (a0 15) k21 8 f21, zVi (a0 26) k22 28 f22]) hP hK hD hS hA ⟨hx, hb, hml, hown, hts⟩ (zf_X12_readsLong l dC dI h0 ((25 * s_7.1) + 1) a0 (zI (zI (zI (zI b0 1 0) 33 (-1)) 58 (-1)) 59 (-1)) c0 k3 f3 o_23 hqo_23 H.size) (cwV 1 hts gX12_check_X12_readsLong rfl rfl rfl zhd_X12_readsLong ⟨Nat.le_of_ble_eq_true rfl, Nat.le_of_ble_eq_true rfl⟩) [0, 3] rfl (of_decide_eq_true rfl) [2] rfl rfl rfl rfl hl.1 rfl (Nat.le_of_ble_eq_true rfl) dX12_check_92 ⟨Nat.le_of_ble_eq_true rfl, Nat.le_of_ble_eq_true rfl⟩ [some 0, none, none, some 1] (of_decide_eq_true rfl) (of_decide_eq_true rfl) rfl rfl rfl (fun H locs hP hD hS => ?_)
        refine va_last hx hb hK hP hD hS 5 4 rfl rfl h_21 dX12_check_95 (fun H locs hP hD hS => ?_)
        have hP : va_P (dC, dI) vwCl [(h0, .inr (12, zO a0 (zI (zI (zI (zI b0 1 0) 33 (-1)) 58 (-1)) 59 (-1)) c0)), zVi (a0 17) k1 2 f1, zVi (a0 2) k2 5 f2, zVi (a0 0) k3 1200 f3, zVi (a0 60) k4 14 g_22, zVl (a0 61) k5 14 (vp_updL s_7.2.2.1 s_7.1.toNatClampNeg o_23), zVl (a0 62) k6 14 s_7.2.2.2.1, zVl (a0 63) k7 14 s_7.2.2.2.2, zVi (a0 12) k8 2 f8, zVi (a0 27) k9 28 f9, zVi (a0 25) k10 28 f10, zVi (a0 39) k11 14 f11, zVi (a0 19) k12 28 f12, zVi (a0 20) k13 28 f13, zVi (a0 21) k14 28 f14, zVl (a0 31) k15 14 f15, zVl (a0 22) k16 28 f16, zVl (a0 23) k17 28 f17, zVl (a0 32) k18 14 f18, zVi (a0 14) k19 8 f19, zVl (a0 40) k20 14 f20, zVi (a0 15) k21 8 f21, zVi (a0 26) k22 28 f22] H := hP
        have hD := zDW hD hP rfl
        refine lv_aload_n hx hb dX12_check_96 rfl (lv_at hl 1 rfl) ?_
        refine va_get (D := (dC, dI)) (ci := 12) (v := .ref (a0 62)) (C := RX12) (T := TX12) (N := 67) hx hb hts zn_X12_check_X12 hown hK hP 0 rfl rfl 62 (of_decide_eq_true rfl) (hts (.fieldLink RX12 201 "ShortEnoughModel" "saysGreatest" "[J") zw_X12_check_1350) (fun _ h9 => h9) rfl dX12_check_97 ?_
        refine lv_iload_n hx hb dX12_check_100 rfl (lv_at hl 0 rfl) ?_
        refine lv_aload_n hx hb dX12_check_101 rfl (lv_at hl 1 rfl) ?_
        refine lv_bipush (v := 25) hx hb dX12_check_102 zcb_25 ?_
        refine lv_iload_n hx hb dX12_check_104 rfl (lv_at hl 0 rfl) ?_
        refine lv_imul hx hb dX12_check_105 ?_
        refine lv_bipush (v := 9) hx hb dX12_check_106 zcb_9 ?_
        refine lv_iadd hx hb dX12_check_108 ?_
        obtain ⟨o_27, hqo_27, hfn⟩ := zb_s hfn
        refine zcVl (ci := 12) (rest := [.int s_7.1, .ref (a0 62)]) (pc' := 112) (ws' := [(h0, .inr (12, zO a0 (zI (zI (zI (zI b0 1 0) 33 (-1)) 58 (-1)) 59 (-1)) c0)), zVi (a0 17) k1 2 f1, zVi (a0 2) k2 5 f2, zVi (a0 0) k3 1200 f3, zVi (a0 60) k4 14 g_22, zVl (a0 61) k5 14 (vp_updL s_7.2.2.1 s_7.1.toNatClampNeg o_23), zVl (a0 62) k6 14 s_7.2.2.2.1, zVl (a0 63) k7 14 s_7.2.2.2.2, zVi (a0 12) k8 2 f8, zVi (a0 27) k9 28 f9, zVi (a0 25) k10 28 f10, zVi (a0 39) k11 14 f11, zVi (a0 19) k12 28 f12, zVi (a0 20) k13 28 f13, zVi (a0 21) k14 28 f14, zVl (a0 31) k15 14 f15, zVl (a0 22) k16 28 f16, zVl (a0 23) k17 28 f17, zVl (a0 32) k18 14 f18, zVi (a0 14) k19 8 f19, zVl (a0 40) k20 14 f20, zVi (a0 15) k21 8 f21, zVi (a0 26) k22 28 f22]) hP hK hD hS hA ⟨hx, hb, hml, hown, hts⟩ (zf_X12_readsLong l dC dI h0 ((25 * s_7.1) + 9) a0 (zI (zI (zI (zI b0 1 0) 33 (-1)) 58 (-1)) 59 (-1)) c0 k3 f3 o_27 hqo_27 H.size) (cwV 1 hts gX12_check_X12_readsLong rfl rfl rfl zhd_X12_readsLong ⟨Nat.le_of_ble_eq_true rfl, Nat.le_of_ble_eq_true rfl⟩) [0, 3] rfl (of_decide_eq_true rfl) [2] rfl rfl rfl rfl hl.1 rfl (Nat.le_of_ble_eq_true rfl) dX12_check_109 ⟨Nat.le_of_ble_eq_true rfl, Nat.le_of_ble_eq_true rfl⟩ [some 0, none, none, some 1] (of_decide_eq_true rfl) (of_decide_eq_true rfl) rfl rfl rfl (fun H locs hP hD hS => ?_)
        refine va_last hx hb hK hP hD hS 6 5 rfl rfl h_21 dX12_check_112 (fun H locs hP hD hS => ?_)
        have hP : va_P (dC, dI) vwCl [(h0, .inr (12, zO a0 (zI (zI (zI (zI b0 1 0) 33 (-1)) 58 (-1)) 59 (-1)) c0)), zVi (a0 17) k1 2 f1, zVi (a0 2) k2 5 f2, zVi (a0 0) k3 1200 f3, zVi (a0 60) k4 14 g_22, zVl (a0 61) k5 14 (vp_updL s_7.2.2.1 s_7.1.toNatClampNeg o_23), zVl (a0 62) k6 14 (vp_updL s_7.2.2.2.1 s_7.1.toNatClampNeg o_27), zVl (a0 63) k7 14 s_7.2.2.2.2, zVi (a0 12) k8 2 f8, zVi (a0 27) k9 28 f9, zVi (a0 25) k10 28 f10, zVi (a0 39) k11 14 f11, zVi (a0 19) k12 28 f12, zVi (a0 20) k13 28 f13, zVi (a0 21) k14 28 f14, zVl (a0 31) k15 14 f15, zVl (a0 22) k16 28 f16, zVl (a0 23) k17 28 f17, zVl (a0 32) k18 14 f18, zVi (a0 14) k19 8 f19, zVl (a0 40) k20 14 f20, zVi (a0 15) k21 8 f21, zVi (a0 26) k22 28 f22] H := hP
        have hD := zDW hD hP rfl
        refine lv_aload_n hx hb dX12_check_113 rfl (lv_at hl 1 rfl) ?_
        refine va_get (D := (dC, dI)) (ci := 12) (v := .ref (a0 63)) (C := RX12) (T := TX12) (N := 67) hx hb hts zn_X12_check_X12 hown hK hP 0 rfl rfl 63 (of_decide_eq_true rfl) (hts (.fieldLink RX12 204 "ShortEnoughModel" "saysError" "[J") zw_X12_check_1351) (fun _ h9 => h9) rfl dX12_check_114 ?_
        refine lv_iload_n hx hb dX12_check_117 rfl (lv_at hl 0 rfl) ?_
        refine lv_aload_n hx hb dX12_check_118 rfl (lv_at hl 1 rfl) ?_
        refine lv_bipush (v := 25) hx hb dX12_check_119 zcb_25 ?_
        refine lv_iload_n hx hb dX12_check_121 rfl (lv_at hl 0 rfl) ?_
        refine lv_imul hx hb dX12_check_122 ?_
        refine lv_bipush (v := 17) hx hb dX12_check_123 zcb_17 ?_
        refine lv_iadd hx hb dX12_check_125 ?_
        obtain ⟨o_31, hqo_31, hfn⟩ := zb_s hfn
        refine zcVl (ci := 12) (rest := [.int s_7.1, .ref (a0 63)]) (pc' := 129) (ws' := [(h0, .inr (12, zO a0 (zI (zI (zI (zI b0 1 0) 33 (-1)) 58 (-1)) 59 (-1)) c0)), zVi (a0 17) k1 2 f1, zVi (a0 2) k2 5 f2, zVi (a0 0) k3 1200 f3, zVi (a0 60) k4 14 g_22, zVl (a0 61) k5 14 (vp_updL s_7.2.2.1 s_7.1.toNatClampNeg o_23), zVl (a0 62) k6 14 (vp_updL s_7.2.2.2.1 s_7.1.toNatClampNeg o_27), zVl (a0 63) k7 14 s_7.2.2.2.2, zVi (a0 12) k8 2 f8, zVi (a0 27) k9 28 f9, zVi (a0 25) k10 28 f10, zVi (a0 39) k11 14 f11, zVi (a0 19) k12 28 f12, zVi (a0 20) k13 28 f13, zVi (a0 21) k14 28 f14, zVl (a0 31) k15 14 f15, zVl (a0 22) k16 28 f16, zVl (a0 23) k17 28 f17, zVl (a0 32) k18 14 f18, zVi (a0 14) k19 8 f19, zVl (a0 40) k20 14 f20, zVi (a0 15) k21 8 f21, zVi (a0 26) k22 28 f22]) hP hK hD hS hA ⟨hx, hb, hml, hown, hts⟩ (zf_X12_readsLong l dC dI h0 ((25 * s_7.1) + 17) a0 (zI (zI (zI (zI b0 1 0) 33 (-1)) 58 (-1)) 59 (-1)) c0 k3 f3 o_31 hqo_31 H.size) (cwV 1 hts gX12_check_X12_readsLong rfl rfl rfl zhd_X12_readsLong ⟨Nat.le_of_ble_eq_true rfl, Nat.le_of_ble_eq_true rfl⟩) [0, 3] rfl (of_decide_eq_true rfl) [2] rfl rfl rfl rfl hl.1 rfl (Nat.le_of_ble_eq_true rfl) dX12_check_126 ⟨Nat.le_of_ble_eq_true rfl, Nat.le_of_ble_eq_true rfl⟩ [some 0, none, none, some 1] (of_decide_eq_true rfl) (of_decide_eq_true rfl) rfl rfl rfl (fun H locs hP hD hS => ?_)
        refine va_last hx hb hK hP hD hS 7 6 rfl rfl h_21 dX12_check_129 (fun H locs hP hD hS => ?_)
        have hP : va_P (dC, dI) vwCl [(h0, .inr (12, zO a0 (zI (zI (zI (zI b0 1 0) 33 (-1)) 58 (-1)) 59 (-1)) c0)), zVi (a0 17) k1 2 f1, zVi (a0 2) k2 5 f2, zVi (a0 0) k3 1200 f3, zVi (a0 60) k4 14 g_22, zVl (a0 61) k5 14 (vp_updL s_7.2.2.1 s_7.1.toNatClampNeg o_23), zVl (a0 62) k6 14 (vp_updL s_7.2.2.2.1 s_7.1.toNatClampNeg o_27), zVl (a0 63) k7 14 (vp_updL s_7.2.2.2.2 s_7.1.toNatClampNeg o_31), zVi (a0 12) k8 2 f8, zVi (a0 27) k9 28 f9, zVi (a0 25) k10 28 f10, zVi (a0 39) k11 14 f11, zVi (a0 19) k12 28 f12, zVi (a0 20) k13 28 f13, zVi (a0 21) k14 28 f14, zVl (a0 31) k15 14 f15, zVl (a0 22) k16 28 f16, zVl (a0 23) k17 28 f17, zVl (a0 32) k18 14 f18, zVi (a0 14) k19 8 f19, zVl (a0 40) k20 14 f20, zVi (a0 15) k21 8 f21, zVi (a0 26) k22 28 f22] H := hP
        have hD := zDW hD hP rfl
        refine lv_iinc (v := (s_7.1 + 1)) (lv' := [(2, .int (s_7.1 + 1)), (0, .ref h0)]) hx hb dX12_check_130 hl (k := 0) rfl rfl (of_decide_eq_true rfl) rfl (fun ls hl => ?_)
        refine lv_goto (tgt := 55) hx hb dX12_check_133 (of_decide_eq_true rfl) ?_
        exact ih_7 ((s_7.1 + 1), g_22, (vp_updL s_7.2.2.1 s_7.1.toNatClampNeg o_23), (vp_updL s_7.2.2.2.1 s_7.1.toNatClampNeg o_27), (vp_updL s_7.2.2.2.2 s_7.1.toNatClampNeg o_31)) H locs ls hfn hP hD hS (lv_sub hl [0, 1] rfl)
    exact lp_7 _ (0, f4, f5, f6, f7) H locs ls hfn hP hD hS (lv_sub hl [0, 2] rfl)
  have hfn := (if_neg c_6).symm.trans hfn
  refine lv_aload_n hx hb dX12_check_42 rfl (lv_at hl 1 rfl) ?_
  refine lv_iconst (v := 3) hx hb dX12_check_43 zci_3 ?_
  obtain ⟨o_35, hqo_35, hfn⟩ := zb_s hfn
  refine zcVb (ci := 12) (rest := []) (pc' := 47) (ws' := [(h0, .inr (12, zO a0 (zI (zI (zI b0 1 0) 58 (-1)) 59 (-1)) c0)), zVi (a0 17) k1 2 f1, zVi (a0 2) k2 5 o_35.2, zVi (a0 0) k3 1200 f3, zVi (a0 60) k4 14 f4, zVl (a0 61) k5 14 f5, zVl (a0 62) k6 14 f6, zVl (a0 63) k7 14 f7, zVi (a0 12) k8 2 f8, zVi (a0 27) k9 28 f9, zVi (a0 25) k10 28 f10, zVi (a0 39) k11 14 f11, zVi (a0 19) k12 28 f12, zVi (a0 20) k13 28 f13, zVi (a0 21) k14 28 f14, zVl (a0 31) k15 14 f15, zVl (a0 22) k16 28 f16, zVl (a0 23) k17 28 f17, zVl (a0 32) k18 14 f18, zVi (a0 14) k19 8 f19, zVl (a0 40) k20 14 f20, zVi (a0 15) k21 8 f21, zVi (a0 26) k22 28 f22]) hP hK hD hS hA ⟨hx, hb, hml, hown, hts⟩ (zf_X12_isRefused l dC dI h0 3 a0 (zI (zI (zI b0 1 0) 58 (-1)) 59 (-1)) c0 k2 f2 o_35 hqo_35 H.size) (cwV 1 hts gX12_check_X12_isRefused rfl rfl rfl zhd_X12_isRefused ⟨Nat.le_of_ble_eq_true rfl, Nat.le_of_ble_eq_true rfl⟩) [0, 2] rfl (of_decide_eq_true rfl) [1] rfl rfl rfl rfl hl.1 rfl (Nat.le_of_ble_eq_true rfl) dX12_check_44 ⟨Nat.le_of_ble_eq_true rfl, Nat.le_of_ble_eq_true rfl⟩ [some 0, none, some 1] (of_decide_eq_true rfl) (of_decide_eq_true rfl) rfl rfl rfl (fun H locs hw_38n hP hD hS => ?_)
  have ho := Option.some.inj hfn
  subst ho
  exact zrz hx hb hr hw_38n hK hP hD hS hQ ⟨rfl, hw_38n⟩ hlocks dX12_check_47
theorem zn_X12_broken_X12 : ∀ w ∈ wsX120, w ∈ wsX12_broken := fun _ h => List.mem_cons_of_mem _ (List.mem_append_right _ h)
theorem zw_X12_broken_1353 : Cond.fieldLink RX12 192 "ShortEnoughModel" "brokenWhy" "I" ∈ wsX12_broken := List.mem_of_getElem? (i := 2) (by decide +kernel)
theorem zw_X12_broken_1354 : Cond.fieldLink RX12 189 "ShortEnoughModel" "brokenAt" "I" ∈ wsX12_broken := List.mem_of_getElem? (i := 1) (by decide +kernel)
set_option maxHeartbeats 4000000 in
set_option maxRecDepth 100000 in
theorem zf_X12_broken (l : Launch) (dC : Nat → ClassId) (dI : Nat → Nat → Nat) (h0 : Nat) (p1 : Int32) (a0 : Nat → Nat) (b0 : Nat → Int32) (c0 : Nat → Int64) (o : Int32) (hfn : fn_X12_broken p1 (b0 58) (b0 59) = some o) (sz : Nat) : zMi l yX12_broken wsX12_broken ({ frames := 0, cells := 0, slots := 0, locals := 0 }) (dC, dI) vwCl [.ref h0, .int p1] [(h0, .inr (12, zO a0 b0 c0))] [] (fun r _ => r = o) [(h0, .inr (12, zO a0 b0 c0))] [] sz := by
  refine zgoi (cc := cX12_broken) (maxL := 2) (ret := (some .int)) (C0 := RX12) (lv0 := [(0, .ref h0), (1, .int p1)]) zpl_X12 rfl rfl rfl (Nat.le_of_ble_eq_true rfl) ?_
  intro p e s m below meth c A ls Q hx hb hr hts hown hlocks hml hP hK hD hA hS hl hQ
  unfold fn_X12_broken at hfn
  refine lv_iload_n hx hb dX12_broken_0 rfl (lv_at hl 1 rfl) ?_
  refine lv_if_ne (tgt := 11) hx hb dX12_broken_1 (of_decide_eq_true rfl) (fun c_1 => ?_) (fun c_1 => ?_)
  · have hfn := (if_neg c_1).symm.trans hfn
    refine lv_iload_n hx hb dX12_broken_11 rfl (lv_at hl 1 rfl) ?_
    refine lv_iconst (v := 1) hx hb dX12_broken_12 zci_1 ?_
    refine lv_icmp_ne (tgt := 23) hx hb dX12_broken_13 (of_decide_eq_true rfl) (fun c_2 => ?_) (fun c_2 => ?_)
    · have hfn := (if_neg c_2).symm.trans hfn
      refine lv_iconst (v := (-1)) hx hb dX12_broken_23 zci_m1 ?_
      have ho := Option.some.inj hfn
      subst ho
      exact zri hx hb hr hK hP hD hS hQ rfl hlocks dX12_broken_24
    have hfn := (if_pos c_2).symm.trans hfn
    refine lv_aload_n hx hb dX12_broken_16 rfl (lv_at hl 0 rfl) ?_
    refine va_get (D := (dC, dI)) (ci := 12) (v := .int (b0 59)) (C := RX12) (T := TX12) (N := 67) hx hb hts zn_X12_broken_X12 hown hK hP 0 rfl rfl 59 (of_decide_eq_true rfl) (hts (.fieldLink RX12 192 "ShortEnoughModel" "brokenWhy" "I") zw_X12_broken_1353) (fun _ h9 => h9) rfl dX12_broken_17 ?_
    refine lv_goto (tgt := 24) hx hb dX12_broken_20 (of_decide_eq_true rfl) ?_
    have ho := Option.some.inj hfn
    subst ho
    exact zri hx hb hr hK hP hD hS hQ rfl hlocks dX12_broken_24
  have hfn := (if_pos c_1).symm.trans hfn
  refine lv_aload_n hx hb dX12_broken_4 rfl (lv_at hl 0 rfl) ?_
  refine va_get (D := (dC, dI)) (ci := 12) (v := .int (b0 58)) (C := RX12) (T := TX12) (N := 67) hx hb hts zn_X12_broken_X12 hown hK hP 0 rfl rfl 58 (of_decide_eq_true rfl) (hts (.fieldLink RX12 189 "ShortEnoughModel" "brokenAt" "I") zw_X12_broken_1354) (fun _ h9 => h9) rfl dX12_broken_5 ?_
  refine lv_goto (tgt := 24) hx hb dX12_broken_8 (of_decide_eq_true rfl) ?_
  have ho := Option.some.inj hfn
  subst ho
  exact zri hx hb hr hK hP hD hS hQ rfl hlocks dX12_broken_24
theorem zw_X12_draw_1355 : Cond.constantLong RX12 527 (1103515245) ∈ wsX12_draw := List.mem_of_getElem? (i := 1) (by decide +kernel)
theorem zn_X12_draw_X12 : ∀ w ∈ wsX120, w ∈ wsX12_draw := fun _ h => List.mem_cons_of_mem _ (List.mem_append_right _ h)
theorem zw_X12_draw_1357 : Cond.fieldLink RX12 207 "ShortEnoughModel" "seedNow" "I" ∈ wsX12_draw := List.mem_of_getElem? (i := 2) (by decide +kernel)
theorem zw_X12_draw_1358 : Cond.constantLong RX12 529 (12345) ∈ wsX12_draw := List.mem_of_getElem? (i := 3) (by decide +kernel)
theorem zw_X12_draw_1359 : Cond.constantLong RX12 531 (2147483648) ∈ wsX12_draw := List.mem_of_getElem? (i := 4) (by decide +kernel)
set_option maxHeartbeats 4000000 in
set_option maxRecDepth 100000 in
theorem zf_X12_draw (l : Launch) (dC : Nat → ClassId) (dI : Nat → Nat → Nat) (h0 : Nat) (j1 : Int64) (a0 : Nat → Nat) (b0 : Nat → Int32) (c0 : Nat → Int64) (o : Int64 × Int32) (hfn : fn_X12_draw j1 (b0 64) = some o) (sz : Nat) : zMl l yX12_draw wsX12_draw ({ frames := 0, cells := 0, slots := 0, locals := 0 }) (dC, dI) vwCl [.ref h0, .long j1] [(h0, .inr (12, zO a0 b0 c0))] [] (fun r _ => r = o.1) [(h0, .inr (12, zO a0 (zI b0 64 o.2) c0))] [] sz := by
  refine zgol (cc := cX12_draw) (maxL := 5) (ret := (some .long)) (C0 := RX12) (lv0 := [(0, .ref h0), (1, .long j1)]) zpl_X12 rfl rfl rfl (Nat.le_of_ble_eq_true rfl) ?_
  intro p e s m below meth c A ls Q hx hb hr hts hown hlocks hml hP hK hD hA hS hl hQ
  unfold fn_X12_draw at hfn
  refine lv_ldc2 (v := 1103515245) hx hb hown (hts (.constantLong RX12 527 (1103515245)) zw_X12_draw_1355) dX12_draw_0 ?_
  refine lv_aload_n hx hb dX12_draw_3 rfl (lv_at hl 0 rfl) ?_
  refine va_get (D := (dC, dI)) (ci := 12) (v := .int (b0 64)) (C := RX12) (T := TX12) (N := 67) hx hb hts zn_X12_draw_X12 hown hK hP 0 rfl rfl 64 (of_decide_eq_true rfl) (hts (.fieldLink RX12 207 "ShortEnoughModel" "seedNow" "I") zw_X12_draw_1357) (fun _ h9 => h9) rfl dX12_draw_4 ?_
  refine lv_i2l (v := (b0 64).toInt64) hx hb dX12_draw_7 rfl ?_
  refine lv_lmul hx hb dX12_draw_8 ?_
  refine lv_ldc2 (v := 12345) hx hb hown (hts (.constantLong RX12 529 (12345)) zw_X12_draw_1358) dX12_draw_9 ?_
  refine lv_ladd hx hb dX12_draw_12 ?_
  refine lv_ldc2 (v := 2147483648) hx hb hown (hts (.constantLong RX12 531 (2147483648)) zw_X12_draw_1359) dX12_draw_13 ?_
  refine lv_lrem hx hb dX12_draw_16 (by decide +kernel) ?_
  refine lv_topl (fun x_1 ex_1 => ?_)
  have hfn := zn_s hfn ex_1
  refine lv_lstore_n (lv' := [(3, .long x_1), (0, .ref h0), (1, .long j1)]) hx hb dX12_draw_17 rfl hl (of_decide_eq_true rfl) rfl (fun ls hl => ?_)
  refine lv_aload_n hx hb dX12_draw_18 rfl (lv_at hl 1 rfl) ?_
  refine lv_lload_n hx hb dX12_draw_19 rfl (lv_at hl 0 rfl) ?_
  refine lv_l2i (v := x_1.toInt32) hx hb dX12_draw_20 rfl ?_
  refine va_put (D := (dC, dI)) (ci := 12) (v := .int x_1.toInt32) (ty := .int) (C := RX12) (T := TX12) (N := 67) hx hb hts zn_X12_draw_X12 tyX12 tyX12_ok nmX12 hown hK hP hD hS 0 rfl rfl 64 (of_decide_eq_true rfl) (hts (.fieldLink RX12 207 "ShortEnoughModel" "seedNow" "I") zw_X12_draw_1357) (fun _ h9 => h9) rfl (tyX12_ok 64 (of_decide_eq_true rfl)) rfl rfl (Nat.le_of_ble_eq_true rfl) dX12_draw_21 (fun H locs hP hD hS => ?_)
  have hP : va_P (dC, dI) vwCl [(h0, .inr (12, zO a0 (zI b0 64 x_1.toInt32) c0))] H := hP
  have hD := zDW hD hP rfl
  refine lv_lload_n hx hb dX12_draw_24 rfl (lv_at hl 0 rfl) ?_
  refine lv_lload_n hx hb dX12_draw_25 rfl (lv_at hl 2 rfl) ?_
  refine lv_lmul hx hb dX12_draw_26 ?_
  refine lv_ldc2 (v := 2147483648) hx hb hown (hts (.constantLong RX12 531 (2147483648)) zw_X12_draw_1359) dX12_draw_27 ?_
  refine lv_ldiv hx hb dX12_draw_30 (by decide +kernel) ?_
  have ho := Option.some.inj hfn
  subst ho
  exact zrl hx hb hr hK hP hD hS hQ rfl hlocks dX12_draw_31
theorem zn_X12_exactOf_X12 : ∀ w ∈ wsX120, w ∈ wsX12_exactOf := fun _ h => List.mem_cons_of_mem _ (List.mem_append_right _ h)
theorem zw_X12_exactOf_1361 : Cond.fieldLink RX12 71 "ShortEnoughModel" "first" "[I" ∈ wsX12_exactOf := List.mem_of_getElem? (i := 2) (by decide +kernel)
theorem zw_X12_exactOf_1362 : Cond.fieldLink RX12 74 "ShortEnoughModel" "second" "[I" ∈ wsX12_exactOf := List.mem_of_getElem? (i := 1) (by decide +kernel)
theorem zw_X12_exactOf_1363 : Cond.fieldLink RX12 210 "ShortEnoughModel" "exact" "[J" ∈ wsX12_exactOf := List.mem_of_getElem? (i := 5) (by decide +kernel)
theorem zw_X12_exactOf_1364 : Cond.fieldLink RX12 77 "ShortEnoughModel" "firstV" "[J" ∈ wsX12_exactOf := List.mem_of_getElem? (i := 4) (by decide +kernel)
theorem zw_X12_exactOf_1365 : Cond.fieldLink RX12 81 "ShortEnoughModel" "secondV" "[J" ∈ wsX12_exactOf := List.mem_of_getElem? (i := 3) (by decide +kernel)
set_option maxHeartbeats 4000000 in
set_option maxRecDepth 100000 in
theorem zf_X12_exactOf (l : Launch) (dC : Nat → ClassId) (dI : Nat → Nat → Nat) (h0 : Nat) (p1 : Int32) (p2 : Int32) (a0 : Nat → Nat) (b0 : Nat → Int32) (c0 : Nat → Int64) (k1 : Nat) (f1 : Nat → Int32) (k2 : Nat) (f2 : Nat → Int32) (k3 : Nat) (f3 : Nat → Int64) (k4 : Nat) (f4 : Nat → Int64) (k5 : Nat) (f5 : Nat → Int64) (o : Int64) (hfn : fn_X12_exactOf p1 p2 f1 f2 f3 f4 f5 = some o) (sz : Nat) : zMl l yX12_exactOf wsX12_exactOf ({ frames := 0, cells := 0, slots := 0, locals := 0 }) (dC, dI) vwCl [.ref h0, .int p1, .int p2] [(h0, .inr (12, zO a0 b0 c0)), zVi (a0 20) k1 28 f1, zVi (a0 21) k2 28 f2, zVl (a0 65) k3 14 f3, zVl (a0 22) k4 28 f4, zVl (a0 23) k5 28 f5] [(k1, .int), (k2, .int), (k3, .long), (k4, .long), (k5, .long)] (fun r _ => r = o) [(h0, .inr (12, zO a0 b0 c0)), zVi (a0 20) k1 28 f1, zVi (a0 21) k2 28 f2, zVl (a0 65) k3 14 f3, zVl (a0 22) k4 28 f4, zVl (a0 23) k5 28 f5] [(k1, .int), (k2, .int), (k3, .long), (k4, .long), (k5, .long)] sz := by
  refine zgol (cc := cX12_exactOf) (maxL := 4) (ret := (some .long)) (C0 := RX12) (lv0 := [(0, .ref h0), (1, .int p1), (2, .int p2)]) zpl_X12 rfl rfl rfl (Nat.le_of_ble_eq_true rfl) ?_
  intro p e s m below meth c A ls Q hx hb hr hts hown hlocks hml hP hK hD hA hS hl hQ
  unfold fn_X12_exactOf at hfn
  refine lv_iload_n hx hb dX12_exactOf_0 rfl (lv_at hl 2 rfl) ?_
  obtain ⟨j_1, ej_1, hfn⟩ := zj_g hfn
  have jp_1 : ∀ (s_1 : Int32) (H : Heap) (locs : List Loc) (ls : Array Slot), j_1 s_1 = some o → va_P (dC, dI) vwCl [(h0, .inr (12, zO a0 b0 c0)), zVi (a0 20) k1 28 f1, zVi (a0 21) k2 28 f2, zVl (a0 65) k3 14 f3, zVl (a0 22) k4 28 f4, zVl (a0 23) k5 28 f5] H → va_D A [(h0, .inr (12, zO a0 b0 c0)), zVi (a0 20) k1 28 f1, zVi (a0 21) k2 28 f2, zVl (a0 65) k3 14 f3, zVl (a0 22) k4 28 f4, zVl (a0 23) k5 28 f5] → va_S A s.heap H locs → lv_has ls 4 [(0, .ref h0), (1, .int p1), (2, .int p2)] → W p l e (headSpec wsX12_exactOf ({ frames := 0, cells := 0, slots := 0, locals := 0 })).room s m ([.ref h0, .int p1, .int p2] : List Value).toArray below meth c H locs 0 0 Q (F0 m 19 ls [.int s_1]) := by
    intro s_1 H locs ls hfn hP hD hS hl
    have hfn := zj_s ej_1 hfn
    refine lv_istore_n (lv' := [(3, .int s_1), (0, .ref h0), (1, .int p1), (2, .int p2)]) hx hb dX12_exactOf_19 rfl hl (of_decide_eq_true rfl) rfl (fun ls hl => ?_)
    refine lv_iload_n hx hb dX12_exactOf_20 rfl (lv_at hl 0 rfl) ?_
    refine lv_iconst (v := (-1)) hx hb dX12_exactOf_21 zci_m1 ?_
    refine lv_icmp_ne (tgt := 47) hx hb dX12_exactOf_22 (of_decide_eq_true rfl) (fun c_2 => ?_) (fun c_2 => ?_)
    · have hfn := (if_neg c_2).symm.trans hfn
      refine lv_aload_n hx hb dX12_exactOf_47 rfl (lv_at hl 1 rfl) ?_
      refine va_get (D := (dC, dI)) (ci := 12) (v := .ref (a0 65)) (C := RX12) (T := TX12) (N := 67) hx hb hts zn_X12_exactOf_X12 hown hK hP 0 rfl rfl 65 (of_decide_eq_true rfl) (hts (.fieldLink RX12 210 "ShortEnoughModel" "exact" "[J") zw_X12_exactOf_1363) (fun _ h9 => h9) rfl dX12_exactOf_48 ?_
      refine lv_iload_n hx hb dX12_exactOf_51 rfl (lv_at hl 0 rfl) ?_
      obtain ⟨h_3, hfn⟩ := zg_s hfn
      refine va_lald hx hb hK hP 3 2 rfl rfl h_3 dX12_exactOf_52 ?_
      have ho := Option.some.inj hfn
      subst ho
      exact zrl hx hb hr hK hP hD hS hQ rfl hlocks dX12_exactOf_53
    have hfn := (if_pos c_2).symm.trans hfn
    refine lv_iload_n hx hb dX12_exactOf_25 rfl (lv_at hl 3 rfl) ?_
    refine lv_if_eq (tgt := 38) hx hb dX12_exactOf_26 (of_decide_eq_true rfl) (fun c_4 => ?_) (fun c_4 => ?_)
    · have hfn := (if_pos c_4).symm.trans hfn
      refine lv_aload_n hx hb dX12_exactOf_38 rfl (lv_at hl 1 rfl) ?_
      refine va_get (D := (dC, dI)) (ci := 12) (v := .ref (a0 22)) (C := RX12) (T := TX12) (N := 67) hx hb hts zn_X12_exactOf_X12 hown hK hP 0 rfl rfl 22 (of_decide_eq_true rfl) (hts (.fieldLink RX12 77 "ShortEnoughModel" "firstV" "[J") zw_X12_exactOf_1364) (fun _ h9 => h9) rfl dX12_exactOf_39 ?_
      refine lv_iload_n hx hb dX12_exactOf_42 rfl (lv_at hl 2 rfl) ?_
      obtain ⟨h_5, hfn⟩ := zg_s hfn
      refine va_lald hx hb hK hP 4 3 rfl rfl h_5 dX12_exactOf_43 ?_
      refine lv_goto (tgt := 53) hx hb dX12_exactOf_44 (of_decide_eq_true rfl) ?_
      have ho := Option.some.inj hfn
      subst ho
      exact zrl hx hb hr hK hP hD hS hQ rfl hlocks dX12_exactOf_53
    have hfn := (if_neg c_4).symm.trans hfn
    refine lv_aload_n hx hb dX12_exactOf_29 rfl (lv_at hl 1 rfl) ?_
    refine va_get (D := (dC, dI)) (ci := 12) (v := .ref (a0 23)) (C := RX12) (T := TX12) (N := 67) hx hb hts zn_X12_exactOf_X12 hown hK hP 0 rfl rfl 23 (of_decide_eq_true rfl) (hts (.fieldLink RX12 81 "ShortEnoughModel" "secondV" "[J") zw_X12_exactOf_1365) (fun _ h9 => h9) rfl dX12_exactOf_30 ?_
    refine lv_iload_n hx hb dX12_exactOf_33 rfl (lv_at hl 2 rfl) ?_
    obtain ⟨h_6, hfn⟩ := zg_s hfn
    refine va_lald hx hb hK hP 5 4 rfl rfl h_6 dX12_exactOf_34 ?_
    refine lv_goto (tgt := 53) hx hb dX12_exactOf_35 (of_decide_eq_true rfl) ?_
    have ho := Option.some.inj hfn
    subst ho
    exact zrl hx hb hr hK hP hD hS hQ rfl hlocks dX12_exactOf_53
  refine lv_if_eq (tgt := 13) hx hb dX12_exactOf_1 (of_decide_eq_true rfl) (fun c_7 => ?_) (fun c_7 => ?_)
  · have hfn := (if_pos c_7).symm.trans hfn
    refine lv_aload_n hx hb dX12_exactOf_13 rfl (lv_at hl 0 rfl) ?_
    refine va_get (D := (dC, dI)) (ci := 12) (v := .ref (a0 20)) (C := RX12) (T := TX12) (N := 67) hx hb hts zn_X12_exactOf_X12 hown hK hP 0 rfl rfl 20 (of_decide_eq_true rfl) (hts (.fieldLink RX12 71 "ShortEnoughModel" "first" "[I") zw_X12_exactOf_1361) (fun _ h9 => h9) rfl dX12_exactOf_14 ?_
    refine lv_iload_n hx hb dX12_exactOf_17 rfl (lv_at hl 1 rfl) ?_
    obtain ⟨h_8, hfn⟩ := zg_s hfn
    refine va_iald hx hb hK hP 1 0 rfl rfl h_8 dX12_exactOf_18 ?_
    exact jp_1 (f1 p1.toNatClampNeg) s.heap [] ls hfn hP hD hS (lv_sub hl [0, 1, 2] rfl)
  have hfn := (if_neg c_7).symm.trans hfn
  refine lv_aload_n hx hb dX12_exactOf_4 rfl (lv_at hl 0 rfl) ?_
  refine va_get (D := (dC, dI)) (ci := 12) (v := .ref (a0 21)) (C := RX12) (T := TX12) (N := 67) hx hb hts zn_X12_exactOf_X12 hown hK hP 0 rfl rfl 21 (of_decide_eq_true rfl) (hts (.fieldLink RX12 74 "ShortEnoughModel" "second" "[I") zw_X12_exactOf_1362) (fun _ h9 => h9) rfl dX12_exactOf_5 ?_
  refine lv_iload_n hx hb dX12_exactOf_8 rfl (lv_at hl 1 rfl) ?_
  obtain ⟨h_9, hfn⟩ := zg_s hfn
  refine va_iald hx hb hK hP 2 1 rfl rfl h_9 dX12_exactOf_9 ?_
  refine lv_goto (tgt := 19) hx hb dX12_exactOf_10 (of_decide_eq_true rfl) ?_
  exact jp_1 (f2 p1.toNatClampNeg) s.heap [] ls hfn hP hD hS (lv_sub hl [0, 1, 2] rfl)
theorem zn_X12_castOf_X12 : ∀ w ∈ wsX120, w ∈ wsX12_castOf := fun _ h => List.mem_cons_of_mem _ (List.mem_append_right _ h)
theorem zw_X12_castOf_1367 : Cond.fieldLink RX12 71 "ShortEnoughModel" "first" "[I" ∈ wsX12_castOf := List.mem_of_getElem? (i := 2) (by decide +kernel)
theorem zw_X12_castOf_1368 : Cond.fieldLink RX12 74 "ShortEnoughModel" "second" "[I" ∈ wsX12_castOf := List.mem_of_getElem? (i := 1) (by decide +kernel)
theorem zw_X12_castOf_1369 : Cond.fieldLink RX12 213 "ShortEnoughModel" "keptAs" "[J" ∈ wsX12_castOf := List.mem_of_getElem? (i := 5) (by decide +kernel)
theorem zw_X12_castOf_1370 : Cond.fieldLink RX12 77 "ShortEnoughModel" "firstV" "[J" ∈ wsX12_castOf := List.mem_of_getElem? (i := 4) (by decide +kernel)
theorem zw_X12_castOf_1371 : Cond.fieldLink RX12 81 "ShortEnoughModel" "secondV" "[J" ∈ wsX12_castOf := List.mem_of_getElem? (i := 3) (by decide +kernel)
theorem zw_X12_castOf_1372 : Cond.fieldLink RX12 53 "ShortEnoughModel" "step" "[I" ∈ wsX12_castOf := List.mem_of_getElem? (i := 6) (by decide +kernel)
theorem zw_X12_castOf_1373 : Cond.fieldLink RX12 125 "ShortEnoughModel" "hand" "[I" ∈ wsX12_castOf := List.mem_of_getElem? (i := 7) (by decide +kernel)
set_option maxHeartbeats 4000000 in
set_option maxRecDepth 100000 in
theorem zf_X12_castOf (l : Launch) (dC : Nat → ClassId) (dI : Nat → Nat → Nat) (h0 : Nat) (p1 : Int32) (p2 : Int32) (a0 : Nat → Nat) (b0 : Nat → Int32) (c0 : Nat → Int64) (k1 : Nat) (f1 : Nat → Int32) (k2 : Nat) (f2 : Nat → Int32) (k3 : Nat) (f3 : Nat → Int64) (k4 : Nat) (f4 : Nat → Int64) (k5 : Nat) (f5 : Nat → Int64) (k6 : Nat) (f6 : Nat → Int32) (k7 : Nat) (f7 : Nat → Int32) (o : Int64) (hfn : fn_X12_castOf p1 p2 f1 f2 f3 f4 f5 f6 f7 = some o) (sz : Nat) : zMl l yX12_castOf wsX12_castOf ({ frames := 2, cells := 0, slots := 0, locals := 48 }) (dC, dI) vwCl [.ref h0, .int p1, .int p2] [(h0, .inr (12, zO a0 b0 c0)), zVi (a0 20) k1 28 f1, zVi (a0 21) k2 28 f2, zVl (a0 66) k3 14 f3, zVl (a0 22) k4 28 f4, zVl (a0 23) k5 28 f5, zVi (a0 37) k6 14 f6, zVi (a0 14) k7 8 f7] [(k1, .int), (k2, .int), (k3, .long), (k4, .long), (k5, .long), (k6, .int), (k7, .int)] (fun r _ => r = o) [(h0, .inr (12, zO a0 b0 c0)), zVi (a0 20) k1 28 f1, zVi (a0 21) k2 28 f2, zVl (a0 66) k3 14 f3, zVl (a0 22) k4 28 f4, zVl (a0 23) k5 28 f5, zVi (a0 37) k6 14 f6, zVi (a0 14) k7 8 f7] [(k1, .int), (k2, .int), (k3, .long), (k4, .long), (k5, .long), (k6, .int), (k7, .int)] sz := by
  refine zgol (cc := cX12_castOf) (maxL := 4) (ret := (some .long)) (C0 := RX12) (lv0 := [(0, .ref h0), (1, .int p1), (2, .int p2)]) zpl_X12 rfl rfl rfl (Nat.le_of_ble_eq_true rfl) ?_
  intro p e s m below meth c A ls Q hx hb hr hts hown hlocks hml hP hK hD hA hS hl hQ
  unfold fn_X12_castOf at hfn
  refine lv_iload_n hx hb dX12_castOf_0 rfl (lv_at hl 2 rfl) ?_
  obtain ⟨j_1, ej_1, hfn⟩ := zj_g hfn
  have jp_1 : ∀ (s_1 : Int32) (H : Heap) (locs : List Loc) (ls : Array Slot), j_1 s_1 = some o → va_P (dC, dI) vwCl [(h0, .inr (12, zO a0 b0 c0)), zVi (a0 20) k1 28 f1, zVi (a0 21) k2 28 f2, zVl (a0 66) k3 14 f3, zVl (a0 22) k4 28 f4, zVl (a0 23) k5 28 f5, zVi (a0 37) k6 14 f6, zVi (a0 14) k7 8 f7] H → va_D A [(h0, .inr (12, zO a0 b0 c0)), zVi (a0 20) k1 28 f1, zVi (a0 21) k2 28 f2, zVl (a0 66) k3 14 f3, zVl (a0 22) k4 28 f4, zVl (a0 23) k5 28 f5, zVi (a0 37) k6 14 f6, zVi (a0 14) k7 8 f7] → va_S A s.heap H locs → lv_has ls 4 [(0, .ref h0), (1, .int p1), (2, .int p2)] → W p l e (headSpec wsX12_castOf ({ frames := 2, cells := 0, slots := 0, locals := 48 })).room s m ([.ref h0, .int p1, .int p2] : List Value).toArray below meth c H locs 0 0 Q (F0 m 19 ls [.int s_1]) := by
    intro s_1 H locs ls hfn hP hD hS hl
    have hfn := zj_s ej_1 hfn
    refine lv_istore_n (lv' := [(3, .int s_1), (0, .ref h0), (1, .int p1), (2, .int p2)]) hx hb dX12_castOf_19 rfl hl (of_decide_eq_true rfl) rfl (fun ls hl => ?_)
    refine lv_iload_n hx hb dX12_castOf_20 rfl (lv_at hl 0 rfl) ?_
    refine lv_iconst (v := (-1)) hx hb dX12_castOf_21 zci_m1 ?_
    obtain ⟨j_2, ej_2, hfn⟩ := zj_g hfn
    have jp_2 : ∀ (s_2 : Int64) (H : Heap) (locs : List Loc) (ls : Array Slot), j_2 s_2 = some o → va_P (dC, dI) vwCl [(h0, .inr (12, zO a0 b0 c0)), zVi (a0 20) k1 28 f1, zVi (a0 21) k2 28 f2, zVl (a0 66) k3 14 f3, zVl (a0 22) k4 28 f4, zVl (a0 23) k5 28 f5, zVi (a0 37) k6 14 f6, zVi (a0 14) k7 8 f7] H → va_D A [(h0, .inr (12, zO a0 b0 c0)), zVi (a0 20) k1 28 f1, zVi (a0 21) k2 28 f2, zVl (a0 66) k3 14 f3, zVl (a0 22) k4 28 f4, zVl (a0 23) k5 28 f5, zVi (a0 37) k6 14 f6, zVi (a0 14) k7 8 f7] → va_S A s.heap H locs → lv_has ls 4 [(0, .ref h0), (1, .int p1)] → W p l e (headSpec wsX12_castOf ({ frames := 2, cells := 0, slots := 0, locals := 48 })).room s m ([.ref h0, .int p1, .int p2] : List Value).toArray below meth c H locs 0 0 Q (F0 m 53 ls [.long s_2]) := by
      intro s_2 H locs ls hfn hP hD hS hl
      have hfn := zj_s ej_2 hfn
      refine lv_aload_n hx hb dX12_castOf_53 rfl (lv_at hl 0 rfl) ?_
      refine va_get (D := (dC, dI)) (ci := 12) (v := .ref (a0 14)) (C := RX12) (T := TX12) (N := 67) hx hb hts zn_X12_castOf_X12 hown hK hP 0 rfl rfl 14 (of_decide_eq_true rfl) (hts (.fieldLink RX12 53 "ShortEnoughModel" "step" "[I") zw_X12_castOf_1372) (fun _ h9 => h9) rfl dX12_castOf_54 ?_
      refine lv_aload_n hx hb dX12_castOf_57 rfl (lv_at hl 0 rfl) ?_
      refine va_get (D := (dC, dI)) (ci := 12) (v := .ref (a0 37)) (C := RX12) (T := TX12) (N := 67) hx hb hts zn_X12_castOf_X12 hown hK hP 0 rfl rfl 37 (of_decide_eq_true rfl) (hts (.fieldLink RX12 125 "ShortEnoughModel" "hand" "[I") zw_X12_castOf_1373) (fun _ h9 => h9) rfl dX12_castOf_58 ?_
      refine lv_iload_n hx hb dX12_castOf_61 rfl (lv_at hl 1 rfl) ?_
      obtain ⟨h_3, hfn⟩ := zg_s hfn
      refine va_iald hx hb hK hP 6 5 rfl rfl h_3 dX12_castOf_62 ?_
      obtain ⟨h_4, hfn⟩ := zg_s hfn
      refine va_iald hx hb hK hP 7 6 rfl rfl h_4 dX12_castOf_63 ?_
      refine lv_i2l (v := (f7 (f6 p1.toNatClampNeg).toNatClampNeg).toInt64) hx hb dX12_castOf_64 rfl ?_
      obtain ⟨o_5, hqo_5, hfn⟩ := zb_s hfn
      refine zcSl (rest := []) (pc' := 68) (ws' := [(h0, .inr (12, zO a0 b0 c0)), zVi (a0 20) k1 28 f1, zVi (a0 21) k2 28 f2, zVl (a0 66) k3 14 f3, zVl (a0 22) k4 28 f4, zVl (a0 23) k5 28 f5, zVi (a0 37) k6 14 f6, zVi (a0 14) k7 8 f7]) hP hK hD hS hA ⟨hx, hb, hml, hown, hts⟩ (zf_X12_rounded l dC dI s_2 ((f7 (f6 p1.toNatClampNeg).toNatClampNeg).toInt64) o_5 hqo_5 H.size) (va_cwS 2 hts gX12_castOf_X12_rounded rfl rfl rfl zhd_X12_rounded.2 ⟨Nat.le_of_ble_eq_true rfl, Nat.le_of_ble_eq_true rfl⟩) [] rfl (of_decide_eq_true rfl) [] rfl rfl hl.1 rfl (Nat.le_of_ble_eq_true rfl) dX12_castOf_65 ⟨Nat.le_of_ble_eq_true rfl, Nat.le_of_ble_eq_true rfl⟩ [] (of_decide_eq_true rfl) (of_decide_eq_true rfl) rfl rfl rfl (fun H locs hP hD hS => ?_)
      have ho := Option.some.inj hfn
      subst ho
      exact zrl hx hb hr hK hP hD hS hQ rfl hlocks dX12_castOf_68
    refine lv_icmp_ne (tgt := 47) hx hb dX12_castOf_22 (of_decide_eq_true rfl) (fun c_9 => ?_) (fun c_9 => ?_)
    · have hfn := (if_neg c_9).symm.trans hfn
      refine lv_aload_n hx hb dX12_castOf_47 rfl (lv_at hl 1 rfl) ?_
      refine va_get (D := (dC, dI)) (ci := 12) (v := .ref (a0 66)) (C := RX12) (T := TX12) (N := 67) hx hb hts zn_X12_castOf_X12 hown hK hP 0 rfl rfl 66 (of_decide_eq_true rfl) (hts (.fieldLink RX12 213 "ShortEnoughModel" "keptAs" "[J") zw_X12_castOf_1369) (fun _ h9 => h9) rfl dX12_castOf_48 ?_
      refine lv_iload_n hx hb dX12_castOf_51 rfl (lv_at hl 0 rfl) ?_
      obtain ⟨h_10, hfn⟩ := zg_s hfn
      refine va_lald hx hb hK hP 3 2 rfl rfl h_10 dX12_castOf_52 ?_
      exact jp_2 (f3 s_1.toNatClampNeg) H locs ls hfn hP hD hS (lv_sub hl [1, 2] rfl)
    have hfn := (if_pos c_9).symm.trans hfn
    refine lv_iload_n hx hb dX12_castOf_25 rfl (lv_at hl 3 rfl) ?_
    refine lv_if_eq (tgt := 38) hx hb dX12_castOf_26 (of_decide_eq_true rfl) (fun c_11 => ?_) (fun c_11 => ?_)
    · have hfn := (if_pos c_11).symm.trans hfn
      refine lv_aload_n hx hb dX12_castOf_38 rfl (lv_at hl 1 rfl) ?_
      refine va_get (D := (dC, dI)) (ci := 12) (v := .ref (a0 22)) (C := RX12) (T := TX12) (N := 67) hx hb hts zn_X12_castOf_X12 hown hK hP 0 rfl rfl 22 (of_decide_eq_true rfl) (hts (.fieldLink RX12 77 "ShortEnoughModel" "firstV" "[J") zw_X12_castOf_1370) (fun _ h9 => h9) rfl dX12_castOf_39 ?_
      refine lv_iload_n hx hb dX12_castOf_42 rfl (lv_at hl 2 rfl) ?_
      obtain ⟨h_12, hfn⟩ := zg_s hfn
      refine va_lald hx hb hK hP 4 3 rfl rfl h_12 dX12_castOf_43 ?_
      refine lv_goto (tgt := 53) hx hb dX12_castOf_44 (of_decide_eq_true rfl) ?_
      exact jp_2 (f4 p1.toNatClampNeg) H locs ls hfn hP hD hS (lv_sub hl [1, 2] rfl)
    have hfn := (if_neg c_11).symm.trans hfn
    refine lv_aload_n hx hb dX12_castOf_29 rfl (lv_at hl 1 rfl) ?_
    refine va_get (D := (dC, dI)) (ci := 12) (v := .ref (a0 23)) (C := RX12) (T := TX12) (N := 67) hx hb hts zn_X12_castOf_X12 hown hK hP 0 rfl rfl 23 (of_decide_eq_true rfl) (hts (.fieldLink RX12 81 "ShortEnoughModel" "secondV" "[J") zw_X12_castOf_1371) (fun _ h9 => h9) rfl dX12_castOf_30 ?_
    refine lv_iload_n hx hb dX12_castOf_33 rfl (lv_at hl 2 rfl) ?_
    obtain ⟨h_13, hfn⟩ := zg_s hfn
    refine va_lald hx hb hK hP 5 4 rfl rfl h_13 dX12_castOf_34 ?_
    refine lv_goto (tgt := 53) hx hb dX12_castOf_35 (of_decide_eq_true rfl) ?_
    exact jp_2 (f5 p1.toNatClampNeg) H locs ls hfn hP hD hS (lv_sub hl [1, 2] rfl)
  refine lv_if_eq (tgt := 13) hx hb dX12_castOf_1 (of_decide_eq_true rfl) (fun c_14 => ?_) (fun c_14 => ?_)
  · have hfn := (if_pos c_14).symm.trans hfn
    refine lv_aload_n hx hb dX12_castOf_13 rfl (lv_at hl 0 rfl) ?_
    refine va_get (D := (dC, dI)) (ci := 12) (v := .ref (a0 20)) (C := RX12) (T := TX12) (N := 67) hx hb hts zn_X12_castOf_X12 hown hK hP 0 rfl rfl 20 (of_decide_eq_true rfl) (hts (.fieldLink RX12 71 "ShortEnoughModel" "first" "[I") zw_X12_castOf_1367) (fun _ h9 => h9) rfl dX12_castOf_14 ?_
    refine lv_iload_n hx hb dX12_castOf_17 rfl (lv_at hl 1 rfl) ?_
    obtain ⟨h_15, hfn⟩ := zg_s hfn
    refine va_iald hx hb hK hP 1 0 rfl rfl h_15 dX12_castOf_18 ?_
    exact jp_1 (f1 p1.toNatClampNeg) s.heap [] ls hfn hP hD hS (lv_sub hl [0, 1, 2] rfl)
  have hfn := (if_neg c_14).symm.trans hfn
  refine lv_aload_n hx hb dX12_castOf_4 rfl (lv_at hl 0 rfl) ?_
  refine va_get (D := (dC, dI)) (ci := 12) (v := .ref (a0 21)) (C := RX12) (T := TX12) (N := 67) hx hb hts zn_X12_castOf_X12 hown hK hP 0 rfl rfl 21 (of_decide_eq_true rfl) (hts (.fieldLink RX12 74 "ShortEnoughModel" "second" "[I") zw_X12_castOf_1368) (fun _ h9 => h9) rfl dX12_castOf_5 ?_
  refine lv_iload_n hx hb dX12_castOf_8 rfl (lv_at hl 1 rfl) ?_
  obtain ⟨h_16, hfn⟩ := zg_s hfn
  refine va_iald hx hb hK hP 2 1 rfl rfl h_16 dX12_castOf_9 ?_
  refine lv_goto (tgt := 19) hx hb dX12_castOf_10 (of_decide_eq_true rfl) ?_
  exact jp_1 (f2 p1.toNatClampNeg) s.heap [] ls hfn hP hD hS (lv_sub hl [0, 1, 2] rfl)
theorem zn_X12_triesOnce_X12 : ∀ w ∈ wsX120, w ∈ wsX12_triesOnce := fun _ h => List.mem_cons_of_mem _ (List.mem_append_right _ h)
theorem zw_X12_triesOnce_1375 : Cond.fieldLink RX12 62 "ShortEnoughModel" "numbers" "[I" ∈ wsX12_triesOnce := List.mem_of_getElem? (i := 1) (by decide +kernel)
theorem zw_X12_triesOnce_1376 : Cond.fieldLink RX12 53 "ShortEnoughModel" "step" "[I" ∈ wsX12_triesOnce := List.mem_of_getElem? (i := 2) (by decide +kernel)
theorem zw_X12_triesOnce_1377 : Cond.fieldLink RX12 125 "ShortEnoughModel" "hand" "[I" ∈ wsX12_triesOnce := List.mem_of_getElem? (i := 3) (by decide +kernel)
theorem zw_X12_triesOnce_1378 : Cond.fieldLink RX12 68 "ShortEnoughModel" "op" "[I" ∈ wsX12_triesOnce := List.mem_of_getElem? (i := 4) (by decide +kernel)
theorem zw_X12_triesOnce_1379 : Cond.fieldLink RX12 210 "ShortEnoughModel" "exact" "[J" ∈ wsX12_triesOnce := List.mem_of_getElem? (i := 5) (by decide +kernel)
theorem zw_X12_triesOnce_1380 : Cond.fieldLink RX12 213 "ShortEnoughModel" "keptAs" "[J" ∈ wsX12_triesOnce := List.mem_of_getElem? (i := 8) (by decide +kernel)
theorem zw_X12_triesOnce_1381 : Cond.fieldLink RX12 77 "ShortEnoughModel" "firstV" "[J" ∈ wsX12_triesOnce := List.mem_of_getElem? (i := 6) (by decide +kernel)
theorem zw_X12_triesOnce_1382 : Cond.fieldLink RX12 81 "ShortEnoughModel" "secondV" "[J" ∈ wsX12_triesOnce := List.mem_of_getElem? (i := 7) (by decide +kernel)
set_option maxHeartbeats 4000000 in
set_option maxRecDepth 100000 in
theorem zf_X12_triesOnce (l : Launch) (dC : Nat → ClassId) (dI : Nat → Nat → Nat) (h0 : Nat) (a0 : Nat → Nat) (b0 : Nat → Int32) (c0 : Nat → Int64) (k1 : Nat) (f1 : Nat → Int32) (k2 : Nat) (f2 : Nat → Int32) (k3 : Nat) (f3 : Nat → Int32) (k4 : Nat) (f4 : Nat → Int32) (k5 : Nat) (f5 : Nat → Int32) (k6 : Nat) (f6 : Nat → Int32) (k7 : Nat) (f7 : Nat → Int64) (k8 : Nat) (f8 : Nat → Int64) (k9 : Nat) (f9 : Nat → Int64) (k10 : Nat) (f10 : Nat → Int64) (o : Int32 × (Nat → Int64) × (Nat → Int64)) (hfn : fn_X12_triesOnce (b0 64) f1 f2 f3 f4 f5 f6 f7 f8 f9 f10 = some o) (sz : Nat) : zMv l yX12_triesOnce wsX12_triesOnce ({ frames := 3, cells := 0, slots := 0, locals := 76 }) (dC, dI) vwCl [.ref h0] [(h0, .inr (12, zO a0 b0 c0)), zVi (a0 17) k1 2 f1, zVi (a0 37) k2 14 f2, zVi (a0 14) k3 8 f3, zVi (a0 19) k4 28 f4, zVi (a0 20) k5 28 f5, zVi (a0 21) k6 28 f6, zVl (a0 65) k7 14 f7, zVl (a0 22) k8 28 f8, zVl (a0 23) k9 28 f9, zVl (a0 66) k10 14 f10] [(k1, .int), (k2, .int), (k3, .int), (k4, .int), (k5, .int), (k6, .int), (k7, .long), (k8, .long), (k9, .long), (k10, .long)] (fun _ => True) [(h0, .inr (12, zO a0 (zI b0 64 o.1) c0)), zVi (a0 17) k1 2 f1, zVi (a0 37) k2 14 f2, zVi (a0 14) k3 8 f3, zVi (a0 19) k4 28 f4, zVi (a0 20) k5 28 f5, zVi (a0 21) k6 28 f6, zVl (a0 65) k7 14 o.2.1, zVl (a0 22) k8 28 f8, zVl (a0 23) k9 28 f9, zVl (a0 66) k10 14 o.2.2] [(k1, .int), (k2, .int), (k3, .int), (k4, .int), (k5, .int), (k6, .int), (k7, .long), (k8, .long), (k9, .long), (k10, .long)] sz := by
  refine zgov (cc := cX12_triesOnce) (maxL := 4) (ret := none) (C0 := RX12) (lv0 := [(0, .ref h0)]) zpl_X12 rfl rfl rfl (Nat.le_of_ble_eq_true rfl) ?_
  intro p e s m below meth c A ls Q hx hb hr hts hown hlocks hml hP hK hD hA hS hl hQ
  unfold fn_X12_triesOnce at hfn
  refine lv_iconst (v := 0) hx hb dX12_triesOnce_0 zci_0 ?_
  refine lv_istore_n (lv' := [(1, .int 0), (0, .ref h0)]) hx hb dX12_triesOnce_1 rfl hl (of_decide_eq_true rfl) rfl (fun ls hl => ?_)
  obtain ⟨bd_1, ebd_1, hfn⟩ := zl_g hfn
  have lp_1 : ∀ (n : Nat) (s_1 : Int32 × Int32 × (Nat → Int64) × (Nat → Int64)) (H : Heap) (locs : List Loc) (ls : Array Slot), zl bd_1 n s_1 = some o → va_P (dC, dI) vwCl [(h0, .inr (12, zO a0 (zI b0 64 s_1.2.1) c0)), zVi (a0 17) k1 2 f1, zVi (a0 37) k2 14 f2, zVi (a0 14) k3 8 f3, zVi (a0 19) k4 28 f4, zVi (a0 20) k5 28 f5, zVi (a0 21) k6 28 f6, zVl (a0 65) k7 14 s_1.2.2.1, zVl (a0 22) k8 28 f8, zVl (a0 23) k9 28 f9, zVl (a0 66) k10 14 s_1.2.2.2] H → va_D A [(h0, .inr (12, zO a0 (zI b0 64 s_1.2.1) c0)), zVi (a0 17) k1 2 f1, zVi (a0 37) k2 14 f2, zVi (a0 14) k3 8 f3, zVi (a0 19) k4 28 f4, zVi (a0 20) k5 28 f5, zVi (a0 21) k6 28 f6, zVl (a0 65) k7 14 s_1.2.2.1, zVl (a0 22) k8 28 f8, zVl (a0 23) k9 28 f9, zVl (a0 66) k10 14 s_1.2.2.2] → va_S A s.heap H locs → lv_has ls 4 [(1, .int s_1.1), (0, .ref h0)] → W p l e (headSpec wsX12_triesOnce ({ frames := 3, cells := 0, slots := 0, locals := 76 })).room s m ([.ref h0] : List Value).toArray below meth c H locs 0 0 Q (F0 m 2 ls []) := by
    intro n
    induction n with
    | zero => exact fun _ _ _ _ hfn => (zl_0 hfn).elim
    | succ n ih_1 =>
      intro s_1 H locs ls hfn hP hD hS hl
      have hfn := zl_s ebd_1 hfn
      refine lv_iload_n hx hb dX12_triesOnce_2 rfl (lv_at hl 0 rfl) ?_
      refine lv_aload_n hx hb dX12_triesOnce_3 rfl (lv_at hl 1 rfl) ?_
      refine va_get (D := (dC, dI)) (ci := 12) (v := .ref (a0 17)) (C := RX12) (T := TX12) (N := 67) hx hb hts zn_X12_triesOnce_X12 hown hK hP 0 rfl rfl 17 (of_decide_eq_true rfl) (hts (.fieldLink RX12 62 "ShortEnoughModel" "numbers" "[I") zw_X12_triesOnce_1375) (fun _ h9 => h9) rfl dX12_triesOnce_4 ?_
      refine lv_iconst (v := 0) hx hb dX12_triesOnce_7 zci_0 ?_
      refine va_iald hx hb hK hP 1 0 rfl rfl (zv_in (by decide +kernel)) dX12_triesOnce_8 ?_
      refine lv_icmp_ge (tgt := 147) hx hb dX12_triesOnce_9 (of_decide_eq_true rfl) (fun c_2 => ?_) (fun c_2 => ?_)
      · have hfn := (if_pos c_2).symm.trans hfn
        have ho := Option.some.inj hfn
        subst ho
        exact zrv hx hb hr hK hP hD hS hQ trivial hlocks dX12_triesOnce_147
      have hfn := (if_neg c_2).symm.trans hfn
      refine lv_aload_n hx hb dX12_triesOnce_12 rfl (lv_at hl 1 rfl) ?_
      refine va_get (D := (dC, dI)) (ci := 12) (v := .ref (a0 14)) (C := RX12) (T := TX12) (N := 67) hx hb hts zn_X12_triesOnce_X12 hown hK hP 0 rfl rfl 14 (of_decide_eq_true rfl) (hts (.fieldLink RX12 53 "ShortEnoughModel" "step" "[I") zw_X12_triesOnce_1376) (fun _ h9 => h9) rfl dX12_triesOnce_13 ?_
      refine lv_aload_n hx hb dX12_triesOnce_16 rfl (lv_at hl 1 rfl) ?_
      refine va_get (D := (dC, dI)) (ci := 12) (v := .ref (a0 37)) (C := RX12) (T := TX12) (N := 67) hx hb hts zn_X12_triesOnce_X12 hown hK hP 0 rfl rfl 37 (of_decide_eq_true rfl) (hts (.fieldLink RX12 125 "ShortEnoughModel" "hand" "[I") zw_X12_triesOnce_1377) (fun _ h9 => h9) rfl dX12_triesOnce_17 ?_
      refine lv_iload_n hx hb dX12_triesOnce_20 rfl (lv_at hl 0 rfl) ?_
      obtain ⟨h_3, hfn⟩ := zg_s hfn
      refine va_iald hx hb hK hP 2 1 rfl rfl h_3 dX12_triesOnce_21 ?_
      obtain ⟨h_4, hfn⟩ := zg_s hfn
      refine va_iald hx hb hK hP 3 2 rfl rfl h_4 dX12_triesOnce_22 ?_
      refine lv_i2l (v := (f3 (f2 s_1.1.toNatClampNeg).toNatClampNeg).toInt64) hx hb dX12_triesOnce_23 rfl ?_
      refine lv_lstore_n (lv' := [(2, .long (f3 (f2 s_1.1.toNatClampNeg).toNatClampNeg).toInt64), (1, .int s_1.1), (0, .ref h0)]) hx hb dX12_triesOnce_24 rfl hl (of_decide_eq_true rfl) rfl (fun ls hl => ?_)
      refine lv_aload_n hx hb dX12_triesOnce_25 rfl (lv_at hl 2 rfl) ?_
      refine va_get (D := (dC, dI)) (ci := 12) (v := .ref (a0 19)) (C := RX12) (T := TX12) (N := 67) hx hb hts zn_X12_triesOnce_X12 hown hK hP 0 rfl rfl 19 (of_decide_eq_true rfl) (hts (.fieldLink RX12 68 "ShortEnoughModel" "op" "[I") zw_X12_triesOnce_1378) (fun _ h9 => h9) rfl dX12_triesOnce_26 ?_
      refine lv_iload_n hx hb dX12_triesOnce_29 rfl (lv_at hl 1 rfl) ?_
      obtain ⟨h_5, hfn⟩ := zg_s hfn
      refine va_iald hx hb hK hP 4 3 rfl rfl h_5 dX12_triesOnce_30 ?_
      refine lv_if_ne (tgt := 85) hx hb dX12_triesOnce_31 (of_decide_eq_true rfl) (fun c_6 => ?_) (fun c_6 => ?_)
      · have hfn := (if_neg c_6).symm.trans hfn
        refine lv_aload_n hx hb dX12_triesOnce_85 rfl (lv_at hl 2 rfl) ?_
        refine va_get (D := (dC, dI)) (ci := 12) (v := .ref (a0 65)) (C := RX12) (T := TX12) (N := 67) hx hb hts zn_X12_triesOnce_X12 hown hK hP 0 rfl rfl 65 (of_decide_eq_true rfl) (hts (.fieldLink RX12 210 "ShortEnoughModel" "exact" "[J") zw_X12_triesOnce_1379) (fun _ h9 => h9) rfl dX12_triesOnce_86 ?_
        refine lv_iload_n hx hb dX12_triesOnce_89 rfl (lv_at hl 1 rfl) ?_
        refine lv_aload_n hx hb dX12_triesOnce_90 rfl (lv_at hl 2 rfl) ?_
        refine va_get (D := (dC, dI)) (ci := 12) (v := .ref (a0 19)) (C := RX12) (T := TX12) (N := 67) hx hb hts zn_X12_triesOnce_X12 hown hK hP 0 rfl rfl 19 (of_decide_eq_true rfl) (hts (.fieldLink RX12 68 "ShortEnoughModel" "op" "[I") zw_X12_triesOnce_1378) (fun _ h9 => h9) rfl dX12_triesOnce_91 ?_
        refine lv_iload_n hx hb dX12_triesOnce_94 rfl (lv_at hl 1 rfl) ?_
        refine va_iald hx hb hK hP 4 3 rfl rfl h_5 dX12_triesOnce_95 ?_
        refine lv_aload_n hx hb dX12_triesOnce_96 rfl (lv_at hl 2 rfl) ?_
        refine lv_iload_n hx hb dX12_triesOnce_97 rfl (lv_at hl 1 rfl) ?_
        refine lv_iconst (v := 0) hx hb dX12_triesOnce_98 zci_0 ?_
        obtain ⟨o_7, hqo_7, hfn⟩ := zb_s hfn
        refine zcVl (ci := 12) (rest := [.int (f4 s_1.1.toNatClampNeg), .int s_1.1, .ref (a0 65)]) (pc' := 102) (ws' := [(h0, .inr (12, zO a0 (zI b0 64 s_1.2.1) c0)), zVi (a0 17) k1 2 f1, zVi (a0 37) k2 14 f2, zVi (a0 14) k3 8 f3, zVi (a0 19) k4 28 f4, zVi (a0 20) k5 28 f5, zVi (a0 21) k6 28 f6, zVl (a0 65) k7 14 s_1.2.2.1, zVl (a0 22) k8 28 f8, zVl (a0 23) k9 28 f9, zVl (a0 66) k10 14 s_1.2.2.2]) hP hK hD hS hA ⟨hx, hb, hml, hown, hts⟩ (zf_X12_exactOf l dC dI h0 s_1.1 0 a0 (zI b0 64 s_1.2.1) c0 k5 f5 k6 f6 k7 s_1.2.2.1 k8 f8 k9 f9 o_7 hqo_7 H.size) (cwV 2 hts gX12_triesOnce_X12_exactOf rfl rfl rfl zhd_X12_exactOf ⟨Nat.le_of_ble_eq_true rfl, Nat.le_of_ble_eq_true rfl⟩) [0, 5, 6, 7, 8, 9] rfl (of_decide_eq_true rfl) [4, 5, 6, 7, 8] rfl rfl rfl rfl hl.1 rfl (Nat.le_of_ble_eq_true rfl) dX12_triesOnce_99 ⟨Nat.le_of_ble_eq_true rfl, Nat.le_of_ble_eq_true rfl⟩ [some 0, none, none, none, none, some 1, some 2, some 3, some 4, some 5] (of_decide_eq_true rfl) (of_decide_eq_true rfl) rfl rfl rfl (fun H locs hP hD hS => ?_)
        refine lv_aload_n hx hb dX12_triesOnce_102 rfl (lv_at hl 2 rfl) ?_
        refine lv_iload_n hx hb dX12_triesOnce_103 rfl (lv_at hl 1 rfl) ?_
        refine lv_iconst (v := 1) hx hb dX12_triesOnce_104 zci_1 ?_
        obtain ⟨o_11, hqo_11, hfn⟩ := zb_s hfn
        refine zcVl (ci := 12) (rest := [.long o_7, .int (f4 s_1.1.toNatClampNeg), .int s_1.1, .ref (a0 65)]) (pc' := 108) (ws' := [(h0, .inr (12, zO a0 (zI b0 64 s_1.2.1) c0)), zVi (a0 17) k1 2 f1, zVi (a0 37) k2 14 f2, zVi (a0 14) k3 8 f3, zVi (a0 19) k4 28 f4, zVi (a0 20) k5 28 f5, zVi (a0 21) k6 28 f6, zVl (a0 65) k7 14 s_1.2.2.1, zVl (a0 22) k8 28 f8, zVl (a0 23) k9 28 f9, zVl (a0 66) k10 14 s_1.2.2.2]) hP hK hD hS hA ⟨hx, hb, hml, hown, hts⟩ (zf_X12_exactOf l dC dI h0 s_1.1 1 a0 (zI b0 64 s_1.2.1) c0 k5 f5 k6 f6 k7 s_1.2.2.1 k8 f8 k9 f9 o_11 hqo_11 H.size) (cwV 2 hts gX12_triesOnce_X12_exactOf rfl rfl rfl zhd_X12_exactOf ⟨Nat.le_of_ble_eq_true rfl, Nat.le_of_ble_eq_true rfl⟩) [0, 5, 6, 7, 8, 9] rfl (of_decide_eq_true rfl) [4, 5, 6, 7, 8] rfl rfl rfl rfl hl.1 rfl (Nat.le_of_ble_eq_true rfl) dX12_triesOnce_105 ⟨Nat.le_of_ble_eq_true rfl, Nat.le_of_ble_eq_true rfl⟩ [some 0, none, none, none, none, some 1, some 2, some 3, some 4, some 5] (of_decide_eq_true rfl) (of_decide_eq_true rfl) rfl rfl rfl (fun H locs hP hD hS => ?_)
        refine lv_lconst (v := 1) hx hb dX12_triesOnce_108 (by decide +kernel) ?_
        obtain ⟨o_15, hqo_15, hfn⟩ := zb_s hfn
        refine zcSl (rest := [.int s_1.1, .ref (a0 65)]) (pc' := 112) (ws' := [(h0, .inr (12, zO a0 (zI b0 64 s_1.2.1) c0)), zVi (a0 17) k1 2 f1, zVi (a0 37) k2 14 f2, zVi (a0 14) k3 8 f3, zVi (a0 19) k4 28 f4, zVi (a0 20) k5 28 f5, zVi (a0 21) k6 28 f6, zVl (a0 65) k7 14 s_1.2.2.1, zVl (a0 22) k8 28 f8, zVl (a0 23) k9 28 f9, zVl (a0 66) k10 14 s_1.2.2.2]) hP hK hD hS hA ⟨hx, hb, hml, hown, hts⟩ (zf_X12_two l dC dI (f4 s_1.1.toNatClampNeg) o_7 o_11 (1 : Int64) o_15 hqo_15 H.size) (va_cwS 4 hts gX12_triesOnce_X12_two rfl rfl rfl zhd_X12_two.2 ⟨Nat.le_of_ble_eq_true rfl, Nat.le_of_ble_eq_true rfl⟩) [] rfl (of_decide_eq_true rfl) [] rfl rfl hl.1 rfl (Nat.le_of_ble_eq_true rfl) dX12_triesOnce_109 ⟨Nat.le_of_ble_eq_true rfl, Nat.le_of_ble_eq_true rfl⟩ [] (of_decide_eq_true rfl) (of_decide_eq_true rfl) rfl rfl rfl (fun H locs hP hD hS => ?_)
        refine va_last hx hb hK hP hD hS 7 6 rfl rfl h_3 dX12_triesOnce_112 (fun H locs hP hD hS => ?_)
        have hP : va_P (dC, dI) vwCl [(h0, .inr (12, zO a0 (zI b0 64 s_1.2.1) c0)), zVi (a0 17) k1 2 f1, zVi (a0 37) k2 14 f2, zVi (a0 14) k3 8 f3, zVi (a0 19) k4 28 f4, zVi (a0 20) k5 28 f5, zVi (a0 21) k6 28 f6, zVl (a0 65) k7 14 (vp_updL s_1.2.2.1 s_1.1.toNatClampNeg o_15), zVl (a0 22) k8 28 f8, zVl (a0 23) k9 28 f9, zVl (a0 66) k10 14 s_1.2.2.2] H := hP
        have hD := zDW hD hP rfl
        refine lv_aload_n hx hb dX12_triesOnce_113 rfl (lv_at hl 2 rfl) ?_
        refine va_get (D := (dC, dI)) (ci := 12) (v := .ref (a0 66)) (C := RX12) (T := TX12) (N := 67) hx hb hts zn_X12_triesOnce_X12 hown hK hP 0 rfl rfl 66 (of_decide_eq_true rfl) (hts (.fieldLink RX12 213 "ShortEnoughModel" "keptAs" "[J") zw_X12_triesOnce_1380) (fun _ h9 => h9) rfl dX12_triesOnce_114 ?_
        refine lv_iload_n hx hb dX12_triesOnce_117 rfl (lv_at hl 1 rfl) ?_
        refine lv_aload_n hx hb dX12_triesOnce_118 rfl (lv_at hl 2 rfl) ?_
        refine va_get (D := (dC, dI)) (ci := 12) (v := .ref (a0 19)) (C := RX12) (T := TX12) (N := 67) hx hb hts zn_X12_triesOnce_X12 hown hK hP 0 rfl rfl 19 (of_decide_eq_true rfl) (hts (.fieldLink RX12 68 "ShortEnoughModel" "op" "[I") zw_X12_triesOnce_1378) (fun _ h9 => h9) rfl dX12_triesOnce_119 ?_
        refine lv_iload_n hx hb dX12_triesOnce_122 rfl (lv_at hl 1 rfl) ?_
        refine va_iald hx hb hK hP 4 3 rfl rfl h_5 dX12_triesOnce_123 ?_
        refine lv_aload_n hx hb dX12_triesOnce_124 rfl (lv_at hl 2 rfl) ?_
        refine lv_iload_n hx hb dX12_triesOnce_125 rfl (lv_at hl 1 rfl) ?_
        refine lv_iconst (v := 0) hx hb dX12_triesOnce_126 zci_0 ?_
        obtain ⟨o_19, hqo_19, hfn⟩ := zb_s hfn
        refine zcVl (ci := 12) (rest := [.int (f4 s_1.1.toNatClampNeg), .int s_1.1, .ref (a0 66)]) (pc' := 130) (ws' := [(h0, .inr (12, zO a0 (zI b0 64 s_1.2.1) c0)), zVi (a0 17) k1 2 f1, zVi (a0 37) k2 14 f2, zVi (a0 14) k3 8 f3, zVi (a0 19) k4 28 f4, zVi (a0 20) k5 28 f5, zVi (a0 21) k6 28 f6, zVl (a0 65) k7 14 (vp_updL s_1.2.2.1 s_1.1.toNatClampNeg o_15), zVl (a0 22) k8 28 f8, zVl (a0 23) k9 28 f9, zVl (a0 66) k10 14 s_1.2.2.2]) hP hK hD hS hA ⟨hx, hb, hml, hown, hts⟩ (zf_X12_castOf l dC dI h0 s_1.1 0 a0 (zI b0 64 s_1.2.1) c0 k5 f5 k6 f6 k10 s_1.2.2.2 k8 f8 k9 f9 k2 f2 k3 f3 o_19 hqo_19 H.size) (cwV 2 hts gX12_triesOnce_X12_castOf rfl rfl rfl zhd_X12_castOf ⟨Nat.le_of_ble_eq_true rfl, Nat.le_of_ble_eq_true rfl⟩) [0, 5, 6, 10, 8, 9, 2, 3] rfl (of_decide_eq_true rfl) [4, 5, 9, 7, 8, 1, 2] rfl rfl rfl rfl hl.1 rfl (Nat.le_of_ble_eq_true rfl) dX12_triesOnce_127 ⟨Nat.le_of_ble_eq_true rfl, Nat.le_of_ble_eq_true rfl⟩ [some 0, none, some 6, some 7, none, some 1, some 2, none, some 4, some 5, some 3] (of_decide_eq_true rfl) (of_decide_eq_true rfl) rfl rfl rfl (fun H locs hP hD hS => ?_)
        refine lv_aload_n hx hb dX12_triesOnce_130 rfl (lv_at hl 2 rfl) ?_
        refine lv_iload_n hx hb dX12_triesOnce_131 rfl (lv_at hl 1 rfl) ?_
        refine lv_iconst (v := 1) hx hb dX12_triesOnce_132 zci_1 ?_
        obtain ⟨o_23, hqo_23, hfn⟩ := zb_s hfn
        refine zcVl (ci := 12) (rest := [.long o_19, .int (f4 s_1.1.toNatClampNeg), .int s_1.1, .ref (a0 66)]) (pc' := 136) (ws' := [(h0, .inr (12, zO a0 (zI b0 64 s_1.2.1) c0)), zVi (a0 17) k1 2 f1, zVi (a0 37) k2 14 f2, zVi (a0 14) k3 8 f3, zVi (a0 19) k4 28 f4, zVi (a0 20) k5 28 f5, zVi (a0 21) k6 28 f6, zVl (a0 65) k7 14 (vp_updL s_1.2.2.1 s_1.1.toNatClampNeg o_15), zVl (a0 22) k8 28 f8, zVl (a0 23) k9 28 f9, zVl (a0 66) k10 14 s_1.2.2.2]) hP hK hD hS hA ⟨hx, hb, hml, hown, hts⟩ (zf_X12_castOf l dC dI h0 s_1.1 1 a0 (zI b0 64 s_1.2.1) c0 k5 f5 k6 f6 k10 s_1.2.2.2 k8 f8 k9 f9 k2 f2 k3 f3 o_23 hqo_23 H.size) (cwV 2 hts gX12_triesOnce_X12_castOf rfl rfl rfl zhd_X12_castOf ⟨Nat.le_of_ble_eq_true rfl, Nat.le_of_ble_eq_true rfl⟩) [0, 5, 6, 10, 8, 9, 2, 3] rfl (of_decide_eq_true rfl) [4, 5, 9, 7, 8, 1, 2] rfl rfl rfl rfl hl.1 rfl (Nat.le_of_ble_eq_true rfl) dX12_triesOnce_133 ⟨Nat.le_of_ble_eq_true rfl, Nat.le_of_ble_eq_true rfl⟩ [some 0, none, some 6, some 7, none, some 1, some 2, none, some 4, some 5, some 3] (of_decide_eq_true rfl) (of_decide_eq_true rfl) rfl rfl rfl (fun H locs hP hD hS => ?_)
        refine lv_lload_n hx hb dX12_triesOnce_136 rfl (lv_at hl 0 rfl) ?_
        obtain ⟨o_27, hqo_27, hfn⟩ := zb_s hfn
        refine zcSl (rest := [.int s_1.1, .ref (a0 66)]) (pc' := 140) (ws' := [(h0, .inr (12, zO a0 (zI b0 64 s_1.2.1) c0)), zVi (a0 17) k1 2 f1, zVi (a0 37) k2 14 f2, zVi (a0 14) k3 8 f3, zVi (a0 19) k4 28 f4, zVi (a0 20) k5 28 f5, zVi (a0 21) k6 28 f6, zVl (a0 65) k7 14 (vp_updL s_1.2.2.1 s_1.1.toNatClampNeg o_15), zVl (a0 22) k8 28 f8, zVl (a0 23) k9 28 f9, zVl (a0 66) k10 14 s_1.2.2.2]) hP hK hD hS hA ⟨hx, hb, hml, hown, hts⟩ (zf_X12_two l dC dI (f4 s_1.1.toNatClampNeg) o_19 o_23 ((f3 (f2 s_1.1.toNatClampNeg).toNatClampNeg).toInt64) o_27 hqo_27 H.size) (va_cwS 4 hts gX12_triesOnce_X12_two rfl rfl rfl zhd_X12_two.2 ⟨Nat.le_of_ble_eq_true rfl, Nat.le_of_ble_eq_true rfl⟩) [] rfl (of_decide_eq_true rfl) [] rfl rfl hl.1 rfl (Nat.le_of_ble_eq_true rfl) dX12_triesOnce_137 ⟨Nat.le_of_ble_eq_true rfl, Nat.le_of_ble_eq_true rfl⟩ [] (of_decide_eq_true rfl) (of_decide_eq_true rfl) rfl rfl rfl (fun H locs hP hD hS => ?_)
        refine va_last hx hb hK hP hD hS 10 9 rfl rfl h_3 dX12_triesOnce_140 (fun H locs hP hD hS => ?_)
        have hP : va_P (dC, dI) vwCl [(h0, .inr (12, zO a0 (zI b0 64 s_1.2.1) c0)), zVi (a0 17) k1 2 f1, zVi (a0 37) k2 14 f2, zVi (a0 14) k3 8 f3, zVi (a0 19) k4 28 f4, zVi (a0 20) k5 28 f5, zVi (a0 21) k6 28 f6, zVl (a0 65) k7 14 (vp_updL s_1.2.2.1 s_1.1.toNatClampNeg o_15), zVl (a0 22) k8 28 f8, zVl (a0 23) k9 28 f9, zVl (a0 66) k10 14 (vp_updL s_1.2.2.2 s_1.1.toNatClampNeg o_27)] H := hP
        have hD := zDW hD hP rfl
        refine lv_iinc (v := (s_1.1 + 1)) (lv' := [(1, .int (s_1.1 + 1)), (2, .long (f3 (f2 s_1.1.toNatClampNeg).toNatClampNeg).toInt64), (0, .ref h0)]) hx hb dX12_triesOnce_141 hl (k := 1) rfl rfl (of_decide_eq_true rfl) rfl (fun ls hl => ?_)
        refine lv_goto (tgt := 2) hx hb dX12_triesOnce_144 (of_decide_eq_true rfl) ?_
        exact ih_1 ((s_1.1 + 1), s_1.2.1, (vp_updL s_1.2.2.1 s_1.1.toNatClampNeg o_15), (vp_updL s_1.2.2.2 s_1.1.toNatClampNeg o_27)) H locs ls hfn hP hD hS (lv_sub hl [0, 2] rfl)
      have hfn := (if_pos c_6).symm.trans hfn
      refine lv_aload_n hx hb dX12_triesOnce_34 rfl (lv_at hl 2 rfl) ?_
      refine va_get (D := (dC, dI)) (ci := 12) (v := .ref (a0 65)) (C := RX12) (T := TX12) (N := 67) hx hb hts zn_X12_triesOnce_X12 hown hK hP 0 rfl rfl 65 (of_decide_eq_true rfl) (hts (.fieldLink RX12 210 "ShortEnoughModel" "exact" "[J") zw_X12_triesOnce_1379) (fun _ h9 => h9) rfl dX12_triesOnce_35 ?_
      refine lv_iload_n hx hb dX12_triesOnce_38 rfl (lv_at hl 1 rfl) ?_
      refine lv_aload_n hx hb dX12_triesOnce_39 rfl (lv_at hl 2 rfl) ?_
      refine va_get (D := (dC, dI)) (ci := 12) (v := .ref (a0 22)) (C := RX12) (T := TX12) (N := 67) hx hb hts zn_X12_triesOnce_X12 hown hK hP 0 rfl rfl 22 (of_decide_eq_true rfl) (hts (.fieldLink RX12 77 "ShortEnoughModel" "firstV" "[J") zw_X12_triesOnce_1381) (fun _ h9 => h9) rfl dX12_triesOnce_40 ?_
      refine lv_iload_n hx hb dX12_triesOnce_43 rfl (lv_at hl 1 rfl) ?_
      refine va_lald hx hb hK hP 8 7 rfl rfl h_5 dX12_triesOnce_44 ?_
      refine lv_aload_n hx hb dX12_triesOnce_45 rfl (lv_at hl 2 rfl) ?_
      refine lv_aload_n hx hb dX12_triesOnce_46 rfl (lv_at hl 2 rfl) ?_
      refine va_get (D := (dC, dI)) (ci := 12) (v := .ref (a0 23)) (C := RX12) (T := TX12) (N := 67) hx hb hts zn_X12_triesOnce_X12 hown hK hP 0 rfl rfl 23 (of_decide_eq_true rfl) (hts (.fieldLink RX12 81 "ShortEnoughModel" "secondV" "[J") zw_X12_triesOnce_1382) (fun _ h9 => h9) rfl dX12_triesOnce_47 ?_
      refine lv_iload_n hx hb dX12_triesOnce_50 rfl (lv_at hl 1 rfl) ?_
      refine va_lald hx hb hK hP 9 8 rfl rfl h_5 dX12_triesOnce_51 ?_
      refine lv_aload_n hx hb dX12_triesOnce_52 rfl (lv_at hl 2 rfl) ?_
      refine va_get (D := (dC, dI)) (ci := 12) (v := .ref (a0 22)) (C := RX12) (T := TX12) (N := 67) hx hb hts zn_X12_triesOnce_X12 hown hK hP 0 rfl rfl 22 (of_decide_eq_true rfl) (hts (.fieldLink RX12 77 "ShortEnoughModel" "firstV" "[J") zw_X12_triesOnce_1381) (fun _ h9 => h9) rfl dX12_triesOnce_53 ?_
      refine lv_iload_n hx hb dX12_triesOnce_56 rfl (lv_at hl 1 rfl) ?_
      refine va_lald hx hb hK hP 8 7 rfl rfl h_5 dX12_triesOnce_57 ?_
      refine lv_lsub hx hb dX12_triesOnce_58 ?_
      refine lv_lconst (v := 1) hx hb dX12_triesOnce_59 (by decide +kernel) ?_
      refine lv_ladd hx hb dX12_triesOnce_60 ?_
      obtain ⟨o_31, hqo_31, hfn⟩ := zb_s hfn
      refine zcVl (ci := 12) (rest := [.long (f8 s_1.1.toNatClampNeg), .int s_1.1, .ref (a0 65)]) (pc' := 64) (ws' := [(h0, .inr (12, zO a0 (zI b0 64 o_31.2) c0)), zVi (a0 17) k1 2 f1, zVi (a0 37) k2 14 f2, zVi (a0 14) k3 8 f3, zVi (a0 19) k4 28 f4, zVi (a0 20) k5 28 f5, zVi (a0 21) k6 28 f6, zVl (a0 65) k7 14 s_1.2.2.1, zVl (a0 22) k8 28 f8, zVl (a0 23) k9 28 f9, zVl (a0 66) k10 14 s_1.2.2.2]) hP hK hD hS hA ⟨hx, hb, hml, hown, hts⟩ (zf_X12_draw l dC dI h0 (((f9 s_1.1.toNatClampNeg) - (f8 s_1.1.toNatClampNeg)) + (1 : Int64)) a0 (zI b0 64 s_1.2.1) c0 o_31 hqo_31 H.size) (cwV 1 hts gX12_triesOnce_X12_draw rfl rfl rfl zhd_X12_draw ⟨Nat.le_of_ble_eq_true rfl, Nat.le_of_ble_eq_true rfl⟩) [0] rfl (of_decide_eq_true rfl) [] rfl rfl rfl rfl hl.1 rfl (Nat.le_of_ble_eq_true rfl) dX12_triesOnce_61 ⟨Nat.le_of_ble_eq_true rfl, Nat.le_of_ble_eq_true rfl⟩ [some 0] (of_decide_eq_true rfl) (of_decide_eq_true rfl) rfl rfl rfl (fun H locs hP hD hS => ?_)
      refine lv_ladd hx hb dX12_triesOnce_64 ?_
      refine va_last hx hb hK hP hD hS 7 6 rfl rfl h_3 dX12_triesOnce_65 (fun H locs hP hD hS => ?_)
      obtain ⟨g_35, eg_35⟩ : ∃ g : Nat → Int64, g = (vp_updL s_1.2.2.1 s_1.1.toNatClampNeg ((f8 s_1.1.toNatClampNeg) + o_31.1)) := ⟨_, rfl⟩
      have hfn := zn_s hfn eg_35
      have hP : va_P (dC, dI) vwCl [(h0, .inr (12, zO a0 (zI b0 64 o_31.2) c0)), zVi (a0 17) k1 2 f1, zVi (a0 37) k2 14 f2, zVi (a0 14) k3 8 f3, zVi (a0 19) k4 28 f4, zVi (a0 20) k5 28 f5, zVi (a0 21) k6 28 f6, zVl (a0 65) k7 14 g_35, zVl (a0 22) k8 28 f8, zVl (a0 23) k9 28 f9, zVl (a0 66) k10 14 s_1.2.2.2] H := by rw [eg_35]; exact hP
      have hD : va_D A [(h0, .inr (12, zO a0 (zI b0 64 o_31.2) c0)), zVi (a0 17) k1 2 f1, zVi (a0 37) k2 14 f2, zVi (a0 14) k3 8 f3, zVi (a0 19) k4 28 f4, zVi (a0 20) k5 28 f5, zVi (a0 21) k6 28 f6, zVl (a0 65) k7 14 g_35, zVl (a0 22) k8 28 f8, zVl (a0 23) k9 28 f9, zVl (a0 66) k10 14 s_1.2.2.2] := by rw [eg_35]; exact hD
      refine lv_aload_n hx hb dX12_triesOnce_66 rfl (lv_at hl 2 rfl) ?_
      refine va_get (D := (dC, dI)) (ci := 12) (v := .ref (a0 66)) (C := RX12) (T := TX12) (N := 67) hx hb hts zn_X12_triesOnce_X12 hown hK hP 0 rfl rfl 66 (of_decide_eq_true rfl) (hts (.fieldLink RX12 213 "ShortEnoughModel" "keptAs" "[J") zw_X12_triesOnce_1380) (fun _ h9 => h9) rfl dX12_triesOnce_67 ?_
      refine lv_iload_n hx hb dX12_triesOnce_70 rfl (lv_at hl 1 rfl) ?_
      refine lv_aload_n hx hb dX12_triesOnce_71 rfl (lv_at hl 2 rfl) ?_
      refine va_get (D := (dC, dI)) (ci := 12) (v := .ref (a0 65)) (C := RX12) (T := TX12) (N := 67) hx hb hts zn_X12_triesOnce_X12 hown hK hP 0 rfl rfl 65 (of_decide_eq_true rfl) (hts (.fieldLink RX12 210 "ShortEnoughModel" "exact" "[J") zw_X12_triesOnce_1379) (fun _ h9 => h9) rfl dX12_triesOnce_72 ?_
      refine lv_iload_n hx hb dX12_triesOnce_75 rfl (lv_at hl 1 rfl) ?_
      refine va_lald hx hb hK hP 7 6 rfl rfl h_3 dX12_triesOnce_76 ?_
      refine lv_lload_n hx hb dX12_triesOnce_77 rfl (lv_at hl 0 rfl) ?_
      obtain ⟨o_36, hqo_36, hfn⟩ := zb_s hfn
      refine zcSl (rest := [.int s_1.1, .ref (a0 66)]) (pc' := 81) (ws' := [(h0, .inr (12, zO a0 (zI b0 64 o_31.2) c0)), zVi (a0 17) k1 2 f1, zVi (a0 37) k2 14 f2, zVi (a0 14) k3 8 f3, zVi (a0 19) k4 28 f4, zVi (a0 20) k5 28 f5, zVi (a0 21) k6 28 f6, zVl (a0 65) k7 14 g_35, zVl (a0 22) k8 28 f8, zVl (a0 23) k9 28 f9, zVl (a0 66) k10 14 s_1.2.2.2]) hP hK hD hS hA ⟨hx, hb, hml, hown, hts⟩ (zf_X12_rounded l dC dI (g_35 s_1.1.toNatClampNeg) ((f3 (f2 s_1.1.toNatClampNeg).toNatClampNeg).toInt64) o_36 hqo_36 H.size) (va_cwS 2 hts gX12_triesOnce_X12_rounded rfl rfl rfl zhd_X12_rounded.2 ⟨Nat.le_of_ble_eq_true rfl, Nat.le_of_ble_eq_true rfl⟩) [] rfl (of_decide_eq_true rfl) [] rfl rfl hl.1 rfl (Nat.le_of_ble_eq_true rfl) dX12_triesOnce_78 ⟨Nat.le_of_ble_eq_true rfl, Nat.le_of_ble_eq_true rfl⟩ [] (of_decide_eq_true rfl) (of_decide_eq_true rfl) rfl rfl rfl (fun H locs hP hD hS => ?_)
      refine va_last hx hb hK hP hD hS 10 9 rfl rfl h_3 dX12_triesOnce_81 (fun H locs hP hD hS => ?_)
      have hP : va_P (dC, dI) vwCl [(h0, .inr (12, zO a0 (zI b0 64 o_31.2) c0)), zVi (a0 17) k1 2 f1, zVi (a0 37) k2 14 f2, zVi (a0 14) k3 8 f3, zVi (a0 19) k4 28 f4, zVi (a0 20) k5 28 f5, zVi (a0 21) k6 28 f6, zVl (a0 65) k7 14 g_35, zVl (a0 22) k8 28 f8, zVl (a0 23) k9 28 f9, zVl (a0 66) k10 14 (vp_updL s_1.2.2.2 s_1.1.toNatClampNeg o_36)] H := hP
      have hD := zDW hD hP rfl
      refine lv_goto (tgt := 141) hx hb dX12_triesOnce_82 (of_decide_eq_true rfl) ?_
      refine lv_iinc (v := (s_1.1 + 1)) (lv' := [(1, .int (s_1.1 + 1)), (2, .long (f3 (f2 s_1.1.toNatClampNeg).toNatClampNeg).toInt64), (0, .ref h0)]) hx hb dX12_triesOnce_141 hl (k := 1) rfl rfl (of_decide_eq_true rfl) rfl (fun ls hl => ?_)
      refine lv_goto (tgt := 2) hx hb dX12_triesOnce_144 (of_decide_eq_true rfl) ?_
      exact ih_1 ((s_1.1 + 1), o_31.2, g_35, (vp_updL s_1.2.2.2 s_1.1.toNatClampNeg o_36)) H locs ls hfn hP hD hS (lv_sub hl [0, 2] rfl)
  exact lp_1 _ (0, (b0 64), f7, f10) s.heap [] ls hfn hP hD hS (lv_sub hl [0, 1] rfl)
theorem zw_X12_trials_1383 : Cond.constantLong RX12 545 (40) ∈ wsX12_trials := List.mem_of_getElem? (i := 1) (by decide +kernel)
theorem zn_X12_trials_X12 : ∀ w ∈ wsX120, w ∈ wsX12_trials := fun _ h => List.mem_cons_of_mem _ (List.mem_append_right _ h)
theorem zw_X12_trials_1385 : Cond.fieldLink RX12 213 "ShortEnoughModel" "keptAs" "[J" ∈ wsX12_trials := List.mem_of_getElem? (i := 2) (by decide +kernel)
theorem zw_X12_trials_1386 : Cond.fieldLink RX12 210 "ShortEnoughModel" "exact" "[J" ∈ wsX12_trials := List.mem_of_getElem? (i := 3) (by decide +kernel)
set_option maxHeartbeats 4000000 in
set_option maxRecDepth 100000 in
theorem zf_X12_trials (l : Launch) (dC : Nat → ClassId) (dI : Nat → Nat → Nat) (h0 : Nat) (p1 : Int32) (p2 : Int32) (a0 : Nat → Nat) (b0 : Nat → Int32) (c0 : Nat → Int64) (k1 : Nat) (f1 : Nat → Int32) (k2 : Nat) (f2 : Nat → Int32) (k3 : Nat) (f3 : Nat → Int32) (k4 : Nat) (f4 : Nat → Int32) (k5 : Nat) (f5 : Nat → Int32) (k6 : Nat) (f6 : Nat → Int32) (k7 : Nat) (f7 : Nat → Int32) (k8 : Nat) (f8 : Nat → Int64) (k9 : Nat) (f9 : Nat → Int64) (k10 : Nat) (f10 : Nat → Int64) (k11 : Nat) (f11 : Nat → Int64) (k12 : Nat) (f12 : Nat → Int32) (k13 : Nat) (f13 : Nat → Int64) (k14 : Nat) (f14 : Nat → Int32) (k15 : Nat) (f15 : Nat → Int32) (k16 : Nat) (f16 : Nat → Int64) (k17 : Nat) (f17 : Nat → Int64) (o : Int64 × Int32 × Int32 × Int32 × Int32 × (Nat → Int32) × (Nat → Int32) × (Nat → Int64) × (Nat → Int64) × (Nat → Int64) × (Nat → Int64) × (Nat → Int64)) (hfn : fn_X12_trials p1 p2 (b0 33) (c0 34) (b0 38) (b0 41) (b0 42) (b0 64) f1 f2 f3 f4 f5 f6 f7 f8 f9 f10 f11 f12 f13 f14 f15 f16 f17 = some o) (sz : Nat) : zMl l yX12_trials wsX12_trials ({ frames := 6, cells := 0, slots := 0, locals := 154 }) (dC, dI) vwCl [.ref h0, .int p1, .int p2] [(h0, .inr (12, zO a0 b0 c0)), zVi (a0 2) k1 5 f1, zVi (a0 17) k2 2 f2, zVi (a0 37) k3 14 f3, zVi (a0 39) k4 14 f4, zVi (a0 19) k5 28 f5, zVi (a0 20) k6 28 f6, zVi (a0 21) k7 28 f7, zVl (a0 31) k8 14 f8, zVl (a0 22) k9 28 f9, zVl (a0 23) k10 28 f10, zVl (a0 32) k11 14 f11, zVi (a0 14) k12 8 f12, zVl (a0 40) k13 14 f13, zVi (a0 15) k14 8 f14, zVi (a0 26) k15 28 f15, zVl (a0 65) k16 14 f16, zVl (a0 66) k17 14 f17] [(k1, .int), (k2, .int), (k3, .int), (k4, .int), (k5, .int), (k6, .int), (k7, .int), (k8, .long), (k9, .long), (k10, .long), (k11, .long), (k12, .int), (k13, .long), (k14, .int), (k15, .int), (k16, .long), (k17, .long)] (fun r _ => r = o.1) [(h0, .inr (12, zO a0 (zI (zI (zI (zI b0 33 o.2.1) 41 o.2.2.1) 42 o.2.2.2.1) 64 o.2.2.2.2.1) c0)), zVi (a0 2) k1 5 o.2.2.2.2.2.1, zVi (a0 17) k2 2 f2, zVi (a0 37) k3 14 f3, zVi (a0 39) k4 14 o.2.2.2.2.2.2.1, zVi (a0 19) k5 28 f5, zVi (a0 20) k6 28 f6, zVi (a0 21) k7 28 f7, zVl (a0 31) k8 14 o.2.2.2.2.2.2.2.1, zVl (a0 22) k9 28 f9, zVl (a0 23) k10 28 f10, zVl (a0 32) k11 14 o.2.2.2.2.2.2.2.2.1, zVi (a0 14) k12 8 f12, zVl (a0 40) k13 14 o.2.2.2.2.2.2.2.2.2.1, zVi (a0 15) k14 8 f14, zVi (a0 26) k15 28 f15, zVl (a0 65) k16 14 o.2.2.2.2.2.2.2.2.2.2.1, zVl (a0 66) k17 14 o.2.2.2.2.2.2.2.2.2.2.2] [(k1, .int), (k2, .int), (k3, .int), (k4, .int), (k5, .int), (k6, .int), (k7, .int), (k8, .long), (k9, .long), (k10, .long), (k11, .long), (k12, .int), (k13, .long), (k14, .int), (k15, .int), (k16, .long), (k17, .long)] sz := by
  refine zgol (cc := cX12_trials) (maxL := 6) (ret := (some .long)) (C0 := RX12) (lv0 := [(0, .ref h0), (1, .int p1), (2, .int p2)]) zpl_X12 rfl rfl rfl (Nat.le_of_ble_eq_true rfl) ?_
  intro p e s m below meth c A ls Q hx hb hr hts hown hlocks hml hP hK hD hA hS hl hQ
  unfold fn_X12_trials at hfn
  refine lv_iload_n hx hb dX12_trials_0 rfl (lv_at hl 1 rfl) ?_
  refine lv_i2l (v := p1.toInt64) hx hb dX12_trials_1 rfl ?_
  refine lv_lconst (v := 1) hx hb dX12_trials_2 (by decide +kernel) ?_
  refine lv_ldc2 (v := 40) hx hb hown (hts (.constantLong RX12 545 (40)) zw_X12_trials_1383) dX12_trials_3 ?_
  obtain ⟨o_1, hqo_1, hfn⟩ := zb_s hfn
  refine zcSb (rest := []) (pc' := 9) (ws' := [(h0, .inr (12, zO a0 b0 c0)), zVi (a0 2) k1 5 f1, zVi (a0 17) k2 2 f2, zVi (a0 37) k3 14 f3, zVi (a0 39) k4 14 f4, zVi (a0 19) k5 28 f5, zVi (a0 20) k6 28 f6, zVi (a0 21) k7 28 f7, zVl (a0 31) k8 14 f8, zVl (a0 22) k9 28 f9, zVl (a0 23) k10 28 f10, zVl (a0 32) k11 14 f11, zVi (a0 14) k12 8 f12, zVl (a0 40) k13 14 f13, zVi (a0 15) k14 8 f14, zVi (a0 26) k15 28 f15, zVl (a0 65) k16 14 f16, zVl (a0 66) k17 14 f17]) hP hK hD hS hA ⟨hx, hb, hml, hown, hts⟩ (zf_X12_isIn l dC dI p1.toInt64 (1 : Int64) (40 : Int64) o_1 hqo_1 s.heap.size) (va_cwS 3 hts gX12_trials_X12_isIn rfl rfl rfl zhd_X12_isIn.2 ⟨Nat.le_of_ble_eq_true rfl, Nat.le_of_ble_eq_true rfl⟩) [] rfl (of_decide_eq_true rfl) [] rfl rfl hl.1 rfl (Nat.le_of_ble_eq_true rfl) dX12_trials_6 ⟨Nat.le_of_ble_eq_true rfl, Nat.le_of_ble_eq_true rfl⟩ [] (of_decide_eq_true rfl) (of_decide_eq_true rfl) rfl rfl rfl (fun H locs hw_4n hP hD hS => ?_)
  refine lv_if_eq (tgt := 27) hx hb dX12_trials_9 (of_decide_eq_true rfl) (fun c_5 => ?_) (fun c_5 => ?_)
  · have hfn := (if_pos c_5).symm.trans hfn
    refine lv_aload_n hx hb dX12_trials_27 rfl (lv_at hl 0 rfl) ?_
    refine lv_iconst (v := 4) hx hb dX12_trials_28 zci_4 ?_
    obtain ⟨o_6, hqo_6, hfn⟩ := zb_s hfn
    refine zcVi (ci := 12) (rest := []) (pc' := 32) (ws' := [(h0, .inr (12, zO a0 b0 c0)), zVi (a0 2) k1 5 o_6.2, zVi (a0 17) k2 2 f2, zVi (a0 37) k3 14 f3, zVi (a0 39) k4 14 f4, zVi (a0 19) k5 28 f5, zVi (a0 20) k6 28 f6, zVi (a0 21) k7 28 f7, zVl (a0 31) k8 14 f8, zVl (a0 22) k9 28 f9, zVl (a0 23) k10 28 f10, zVl (a0 32) k11 14 f11, zVi (a0 14) k12 8 f12, zVl (a0 40) k13 14 f13, zVi (a0 15) k14 8 f14, zVi (a0 26) k15 28 f15, zVl (a0 65) k16 14 f16, zVl (a0 66) k17 14 f17]) hP hK hD hS hA ⟨hx, hb, hml, hown, hts⟩ (zf_X12_refuses l dC dI h0 4 a0 b0 c0 k1 f1 o_6 hqo_6 H.size) (cwV 1 hts gX12_trials_X12_refuses rfl rfl rfl zhd_X12_refuses ⟨Nat.le_of_ble_eq_true rfl, Nat.le_of_ble_eq_true rfl⟩) [0, 1] rfl (of_decide_eq_true rfl) [0] rfl rfl rfl rfl hl.1 rfl (Nat.le_of_ble_eq_true rfl) dX12_trials_29 ⟨Nat.le_of_ble_eq_true rfl, Nat.le_of_ble_eq_true rfl⟩ [some 0, some 1] (of_decide_eq_true rfl) (of_decide_eq_true rfl) rfl rfl rfl (fun H locs hP hD hS => ?_)
    refine lv_i2l (v := o_6.1.toInt64) hx hb dX12_trials_32 rfl ?_
    have ho := Option.some.inj hfn
    subst ho
    exact zrl hx hb hr hK hP hD hS hQ rfl hlocks dX12_trials_33
  have hfn := (if_neg c_5).symm.trans hfn
  refine lv_aload_n hx hb dX12_trials_12 rfl (lv_at hl 0 rfl) ?_
  refine lv_iload_n hx hb dX12_trials_13 rfl (lv_at hl 2 rfl) ?_
  obtain ⟨o_10, hqo_10, hfn⟩ := zb_s hfn
  refine zcVb (ci := 12) (rest := []) (pc' := 17) (ws' := [(h0, .inr (12, zO a0 b0 c0)), zVi (a0 2) k1 5 f1, zVi (a0 17) k2 2 f2, zVi (a0 37) k3 14 f3, zVi (a0 39) k4 14 f4, zVi (a0 19) k5 28 f5, zVi (a0 20) k6 28 f6, zVi (a0 21) k7 28 f7, zVl (a0 31) k8 14 f8, zVl (a0 22) k9 28 f9, zVl (a0 23) k10 28 f10, zVl (a0 32) k11 14 f11, zVi (a0 14) k12 8 f12, zVl (a0 40) k13 14 f13, zVi (a0 15) k14 8 f14, zVi (a0 26) k15 28 f15, zVl (a0 65) k16 14 f16, zVl (a0 66) k17 14 f17]) hP hK hD hS hA ⟨hx, hb, hml, hown, hts⟩ (zf_X12_isNumber l dC dI h0 p2 a0 b0 c0 k2 f2 o_10 hqo_10 H.size) (cwV 1 hts gX12_trials_X12_isNumber rfl rfl rfl zhd_X12_isNumber ⟨Nat.le_of_ble_eq_true rfl, Nat.le_of_ble_eq_true rfl⟩) [0, 2] rfl (of_decide_eq_true rfl) [1] rfl rfl rfl rfl hl.1 rfl (Nat.le_of_ble_eq_true rfl) dX12_trials_14 ⟨Nat.le_of_ble_eq_true rfl, Nat.le_of_ble_eq_true rfl⟩ [some 0, none, some 1] (of_decide_eq_true rfl) (of_decide_eq_true rfl) rfl rfl rfl (fun H locs hw_13n hP hD hS => ?_)
  refine lv_if_eq (tgt := 27) hx hb dX12_trials_17 (of_decide_eq_true rfl) (fun c_14 => ?_) (fun c_14 => ?_)
  · have hfn := (if_pos c_14).symm.trans hfn
    refine lv_aload_n hx hb dX12_trials_27 rfl (lv_at hl 0 rfl) ?_
    refine lv_iconst (v := 4) hx hb dX12_trials_28 zci_4 ?_
    obtain ⟨o_15, hqo_15, hfn⟩ := zb_s hfn
    refine zcVi (ci := 12) (rest := []) (pc' := 32) (ws' := [(h0, .inr (12, zO a0 b0 c0)), zVi (a0 2) k1 5 o_15.2, zVi (a0 17) k2 2 f2, zVi (a0 37) k3 14 f3, zVi (a0 39) k4 14 f4, zVi (a0 19) k5 28 f5, zVi (a0 20) k6 28 f6, zVi (a0 21) k7 28 f7, zVl (a0 31) k8 14 f8, zVl (a0 22) k9 28 f9, zVl (a0 23) k10 28 f10, zVl (a0 32) k11 14 f11, zVi (a0 14) k12 8 f12, zVl (a0 40) k13 14 f13, zVi (a0 15) k14 8 f14, zVi (a0 26) k15 28 f15, zVl (a0 65) k16 14 f16, zVl (a0 66) k17 14 f17]) hP hK hD hS hA ⟨hx, hb, hml, hown, hts⟩ (zf_X12_refuses l dC dI h0 4 a0 b0 c0 k1 f1 o_15 hqo_15 H.size) (cwV 1 hts gX12_trials_X12_refuses rfl rfl rfl zhd_X12_refuses ⟨Nat.le_of_ble_eq_true rfl, Nat.le_of_ble_eq_true rfl⟩) [0, 1] rfl (of_decide_eq_true rfl) [0] rfl rfl rfl rfl hl.1 rfl (Nat.le_of_ble_eq_true rfl) dX12_trials_29 ⟨Nat.le_of_ble_eq_true rfl, Nat.le_of_ble_eq_true rfl⟩ [some 0, some 1] (of_decide_eq_true rfl) (of_decide_eq_true rfl) rfl rfl rfl (fun H locs hP hD hS => ?_)
    refine lv_i2l (v := o_15.1.toInt64) hx hb dX12_trials_32 rfl ?_
    have ho := Option.some.inj hfn
    subst ho
    exact zrl hx hb hr hK hP hD hS hQ rfl hlocks dX12_trials_33
  have hfn := (if_neg c_14).symm.trans hfn
  refine lv_aload_n hx hb dX12_trials_20 rfl (lv_at hl 0 rfl) ?_
  obtain ⟨o_19, hqo_19, hfn⟩ := zb_s hfn
  refine zcVb (ci := 12) (rest := []) (pc' := 24) (ws' := [(h0, .inr (12, zO a0 (zI (zI (zI b0 33 o_19.2.1) 41 o_19.2.2.1) 42 o_19.2.2.2.1) c0)), zVi (a0 2) k1 5 f1, zVi (a0 17) k2 2 f2, zVi (a0 37) k3 14 f3, zVi (a0 39) k4 14 o_19.2.2.2.2.1, zVi (a0 19) k5 28 f5, zVi (a0 20) k6 28 f6, zVi (a0 21) k7 28 f7, zVl (a0 31) k8 14 o_19.2.2.2.2.2.1, zVl (a0 22) k9 28 f9, zVl (a0 23) k10 28 f10, zVl (a0 32) k11 14 o_19.2.2.2.2.2.2.1, zVi (a0 14) k12 8 f12, zVl (a0 40) k13 14 o_19.2.2.2.2.2.2.2, zVi (a0 15) k14 8 f14, zVi (a0 26) k15 28 f15, zVl (a0 65) k16 14 f16, zVl (a0 66) k17 14 f17]) hP hK hD hS hA ⟨hx, hb, hml, hown, hts⟩ (zf_X12_handPasses l dC dI h0 a0 b0 c0 k2 f2 k3 f3 k4 f4 k5 f5 k6 f6 k7 f7 k8 f8 k9 f9 k10 f10 k11 f11 k12 f12 k13 f13 k14 f14 k15 f15 o_19 hqo_19 H.size) (cwV 0 hts gX12_trials_X12_handPasses rfl rfl rfl zhd_X12_handPasses ⟨Nat.le_of_ble_eq_true rfl, Nat.le_of_ble_eq_true rfl⟩) [0, 2, 3, 4, 5, 6, 7, 8, 9, 10, 11, 12, 13, 14, 15] rfl (of_decide_eq_true rfl) [1, 2, 3, 4, 5, 6, 7, 8, 9, 10, 11, 12, 13, 14] rfl rfl rfl rfl hl.1 rfl (Nat.le_of_ble_eq_true rfl) dX12_trials_21 ⟨Nat.le_of_ble_eq_true rfl, Nat.le_of_ble_eq_true rfl⟩ [some 0, none, some 1, some 2, some 3, some 4, some 5, some 6, some 7, some 8, some 9, some 10, some 11, some 12, some 13, some 14] (of_decide_eq_true rfl) (of_decide_eq_true rfl) rfl rfl rfl (fun H locs hw_22n hP hD hS => ?_)
  refine lv_if_ne (tgt := 34) hx hb dX12_trials_24 (of_decide_eq_true rfl) (fun c_23 => ?_) (fun c_23 => ?_)
  · have hfn := (if_neg c_23).symm.trans hfn
    refine lv_lconst (v := 0) hx hb dX12_trials_34 (by decide +kernel) ?_
    refine lv_lstore_n (lv' := [(3, .long 0), (0, .ref h0), (1, .int p1), (2, .int p2)]) hx hb dX12_trials_35 rfl hl (of_decide_eq_true rfl) rfl (fun ls hl => ?_)
    refine lv_iconst (v := 0) hx hb dX12_trials_36 zci_0 ?_
    refine lv_istore (lv' := [(5, .int 0), (3, .long 0), (0, .ref h0), (1, .int p1), (2, .int p2)]) hx hb dX12_trials_37 hl (of_decide_eq_true rfl) rfl (fun ls hl => ?_)
    obtain ⟨bd_24, ebd_24, hfn⟩ := zl_g hfn
    have lp_24 : ∀ (n : Nat) (s_24 : Int64 × Int32 × Int32 × (Nat → Int64) × (Nat → Int64)) (H : Heap) (locs : List Loc) (ls : Array Slot), zl bd_24 n s_24 = some o → va_P (dC, dI) vwCl [(h0, .inr (12, zO a0 (zI (zI (zI (zI b0 33 o_19.2.1) 41 o_19.2.2.1) 42 o_19.2.2.2.1) 64 s_24.2.2.1) c0)), zVi (a0 2) k1 5 f1, zVi (a0 17) k2 2 f2, zVi (a0 37) k3 14 f3, zVi (a0 39) k4 14 o_19.2.2.2.2.1, zVi (a0 19) k5 28 f5, zVi (a0 20) k6 28 f6, zVi (a0 21) k7 28 f7, zVl (a0 31) k8 14 o_19.2.2.2.2.2.1, zVl (a0 22) k9 28 f9, zVl (a0 23) k10 28 f10, zVl (a0 32) k11 14 o_19.2.2.2.2.2.2.1, zVi (a0 14) k12 8 f12, zVl (a0 40) k13 14 o_19.2.2.2.2.2.2.2, zVi (a0 15) k14 8 f14, zVi (a0 26) k15 28 f15, zVl (a0 65) k16 14 s_24.2.2.2.1, zVl (a0 66) k17 14 s_24.2.2.2.2] H → va_D A [(h0, .inr (12, zO a0 (zI (zI (zI (zI b0 33 o_19.2.1) 41 o_19.2.2.1) 42 o_19.2.2.2.1) 64 s_24.2.2.1) c0)), zVi (a0 2) k1 5 f1, zVi (a0 17) k2 2 f2, zVi (a0 37) k3 14 f3, zVi (a0 39) k4 14 o_19.2.2.2.2.1, zVi (a0 19) k5 28 f5, zVi (a0 20) k6 28 f6, zVi (a0 21) k7 28 f7, zVl (a0 31) k8 14 o_19.2.2.2.2.2.1, zVl (a0 22) k9 28 f9, zVl (a0 23) k10 28 f10, zVl (a0 32) k11 14 o_19.2.2.2.2.2.2.1, zVi (a0 14) k12 8 f12, zVl (a0 40) k13 14 o_19.2.2.2.2.2.2.2, zVi (a0 15) k14 8 f14, zVi (a0 26) k15 28 f15, zVl (a0 65) k16 14 s_24.2.2.2.1, zVl (a0 66) k17 14 s_24.2.2.2.2] → va_S A s.heap H locs → lv_has ls 6 [(5, .int s_24.2.1), (3, .long s_24.1), (0, .ref h0), (1, .int p1), (2, .int p2)] → W p l e (headSpec wsX12_trials ({ frames := 6, cells := 0, slots := 0, locals := 154 })).room s m ([.ref h0, .int p1, .int p2] : List Value).toArray below meth c H locs 0 0 Q (F0 m 39 ls []) := by
      intro n
      induction n with
      | zero => exact fun _ _ _ _ hfn => (zl_0 hfn).elim
      | succ n ih_24 =>
        intro s_24 H locs ls hfn hP hD hS hl
        have hfn := zl_s ebd_24 hfn
        refine lv_iload hx hb dX12_trials_39 (lv_at hl 0 rfl) ?_
        refine lv_iload_n hx hb dX12_trials_41 rfl (lv_at hl 3 rfl) ?_
        refine lv_icmp_ge (tgt := 76) hx hb dX12_trials_42 (of_decide_eq_true rfl) (fun c_25 => ?_) (fun c_25 => ?_)
        · have hfn := (if_pos c_25).symm.trans hfn
          refine lv_lload_n hx hb dX12_trials_76 rfl (lv_at hl 1 rfl) ?_
          have ho := Option.some.inj hfn
          subst ho
          exact zrl hx hb hr hK hP hD hS hQ rfl hlocks dX12_trials_77
        have hfn := (if_neg c_25).symm.trans hfn
        refine lv_aload_n hx hb dX12_trials_45 rfl (lv_at hl 2 rfl) ?_
        obtain ⟨o_26, hqo_26, hfn⟩ := zb_s hfn
        refine zcVv (ci := 12) (rest := []) (pc' := 49) (ws' := [(h0, .inr (12, zO a0 (zI (zI (zI (zI b0 33 o_19.2.1) 41 o_19.2.2.1) 42 o_19.2.2.2.1) 64 o_26.1) c0)), zVi (a0 2) k1 5 f1, zVi (a0 17) k2 2 f2, zVi (a0 37) k3 14 f3, zVi (a0 39) k4 14 o_19.2.2.2.2.1, zVi (a0 19) k5 28 f5, zVi (a0 20) k6 28 f6, zVi (a0 21) k7 28 f7, zVl (a0 31) k8 14 o_19.2.2.2.2.2.1, zVl (a0 22) k9 28 f9, zVl (a0 23) k10 28 f10, zVl (a0 32) k11 14 o_19.2.2.2.2.2.2.1, zVi (a0 14) k12 8 f12, zVl (a0 40) k13 14 o_19.2.2.2.2.2.2.2, zVi (a0 15) k14 8 f14, zVi (a0 26) k15 28 f15, zVl (a0 65) k16 14 o_26.2.1, zVl (a0 66) k17 14 o_26.2.2]) hP hK hD hS hA ⟨hx, hb, hml, hown, hts⟩ (zf_X12_triesOnce l dC dI h0 a0 (zI (zI (zI (zI b0 33 o_19.2.1) 41 o_19.2.2.1) 42 o_19.2.2.2.1) 64 s_24.2.2.1) c0 k2 f2 k3 f3 k12 f12 k5 f5 k6 f6 k7 f7 k16 s_24.2.2.2.1 k9 f9 k10 f10 k17 s_24.2.2.2.2 o_26 hqo_26 H.size) (cwV 0 hts gX12_trials_X12_triesOnce rfl rfl rfl zhd_X12_triesOnce ⟨Nat.le_of_ble_eq_true rfl, Nat.le_of_ble_eq_true rfl⟩) [0, 2, 3, 12, 5, 6, 7, 16, 9, 10, 17] rfl (of_decide_eq_true rfl) [1, 2, 11, 4, 5, 6, 15, 8, 9, 16] rfl rfl rfl rfl hl.1 rfl (Nat.le_of_ble_eq_true rfl) dX12_trials_46 ⟨Nat.le_of_ble_eq_true rfl, Nat.le_of_ble_eq_true rfl⟩ [some 0, none, some 1, some 2, none, some 4, some 5, some 6, none, some 8, some 9, none, some 3, none, none, none, some 7, some 10] (of_decide_eq_true rfl) (of_decide_eq_true rfl) rfl rfl rfl (fun H locs hP hD hS => ?_)
        refine lv_lload_n hx hb dX12_trials_49 rfl (lv_at hl 1 rfl) ?_
        refine lv_aload_n hx hb dX12_trials_50 rfl (lv_at hl 2 rfl) ?_
        refine va_get (D := (dC, dI)) (ci := 12) (v := .ref (a0 66)) (C := RX12) (T := TX12) (N := 67) hx hb hts zn_X12_trials_X12 hown hK hP 0 rfl rfl 66 (of_decide_eq_true rfl) (hts (.fieldLink RX12 213 "ShortEnoughModel" "keptAs" "[J") zw_X12_trials_1385) (fun _ h9 => h9) rfl dX12_trials_51 ?_
        refine lv_iload_n hx hb dX12_trials_54 rfl (lv_at hl 4 rfl) ?_
        obtain ⟨h_30, hfn⟩ := zg_s hfn
        refine va_lald hx hb hK hP 17 16 rfl rfl h_30 dX12_trials_55 ?_
        refine lv_aload_n hx hb dX12_trials_56 rfl (lv_at hl 2 rfl) ?_
        refine va_get (D := (dC, dI)) (ci := 12) (v := .ref (a0 65)) (C := RX12) (T := TX12) (N := 67) hx hb hts zn_X12_trials_X12 hown hK hP 0 rfl rfl 65 (of_decide_eq_true rfl) (hts (.fieldLink RX12 210 "ShortEnoughModel" "exact" "[J") zw_X12_trials_1386) (fun _ h9 => h9) rfl dX12_trials_57 ?_
        refine lv_iload_n hx hb dX12_trials_60 rfl (lv_at hl 4 rfl) ?_
        refine va_lald hx hb hK hP 16 15 rfl rfl h_30 dX12_trials_61 ?_
        refine lv_lsub hx hb dX12_trials_62 ?_
        obtain ⟨o_31, hqo_31, hfn⟩ := zb_s hfn
        refine zcSl (rest := [.long s_24.1]) (pc' := 66) (ws' := [(h0, .inr (12, zO a0 (zI (zI (zI (zI b0 33 o_19.2.1) 41 o_19.2.2.1) 42 o_19.2.2.2.1) 64 o_26.1) c0)), zVi (a0 2) k1 5 f1, zVi (a0 17) k2 2 f2, zVi (a0 37) k3 14 f3, zVi (a0 39) k4 14 o_19.2.2.2.2.1, zVi (a0 19) k5 28 f5, zVi (a0 20) k6 28 f6, zVi (a0 21) k7 28 f7, zVl (a0 31) k8 14 o_19.2.2.2.2.2.1, zVl (a0 22) k9 28 f9, zVl (a0 23) k10 28 f10, zVl (a0 32) k11 14 o_19.2.2.2.2.2.2.1, zVi (a0 14) k12 8 f12, zVl (a0 40) k13 14 o_19.2.2.2.2.2.2.2, zVi (a0 15) k14 8 f14, zVi (a0 26) k15 28 f15, zVl (a0 65) k16 14 o_26.2.1, zVl (a0 66) k17 14 o_26.2.2]) hP hK hD hS hA ⟨hx, hb, hml, hown, hts⟩ (zf_X12_amount l dC dI ((o_26.2.2 p2.toNatClampNeg) - (o_26.2.1 p2.toNatClampNeg)) o_31 hqo_31 H.size) (va_cwS 1 hts gX12_trials_X12_amount rfl rfl rfl zhd_X12_amount.2 ⟨Nat.le_of_ble_eq_true rfl, Nat.le_of_ble_eq_true rfl⟩) [] rfl (of_decide_eq_true rfl) [] rfl rfl hl.1 rfl (Nat.le_of_ble_eq_true rfl) dX12_trials_63 ⟨Nat.le_of_ble_eq_true rfl, Nat.le_of_ble_eq_true rfl⟩ [] (of_decide_eq_true rfl) (of_decide_eq_true rfl) rfl rfl rfl (fun H locs hP hD hS => ?_)
        obtain ⟨o_35, hqo_35, hfn⟩ := zb_s hfn
        refine zcSl (rest := []) (pc' := 69) (ws' := [(h0, .inr (12, zO a0 (zI (zI (zI (zI b0 33 o_19.2.1) 41 o_19.2.2.1) 42 o_19.2.2.2.1) 64 o_26.1) c0)), zVi (a0 2) k1 5 f1, zVi (a0 17) k2 2 f2, zVi (a0 37) k3 14 f3, zVi (a0 39) k4 14 o_19.2.2.2.2.1, zVi (a0 19) k5 28 f5, zVi (a0 20) k6 28 f6, zVi (a0 21) k7 28 f7, zVl (a0 31) k8 14 o_19.2.2.2.2.2.1, zVl (a0 22) k9 28 f9, zVl (a0 23) k10 28 f10, zVl (a0 32) k11 14 o_19.2.2.2.2.2.2.1, zVi (a0 14) k12 8 f12, zVl (a0 40) k13 14 o_19.2.2.2.2.2.2.2, zVi (a0 15) k14 8 f14, zVi (a0 26) k15 28 f15, zVl (a0 65) k16 14 o_26.2.1, zVl (a0 66) k17 14 o_26.2.2]) hP hK hD hS hA ⟨hx, hb, hml, hown, hts⟩ (zf_X12_greater l dC dI s_24.1 o_31 o_35 hqo_35 H.size) (va_cwS 2 hts gX12_trials_X12_greater rfl rfl rfl zhd_X12_greater.2 ⟨Nat.le_of_ble_eq_true rfl, Nat.le_of_ble_eq_true rfl⟩) [] rfl (of_decide_eq_true rfl) [] rfl rfl hl.1 rfl (Nat.le_of_ble_eq_true rfl) dX12_trials_66 ⟨Nat.le_of_ble_eq_true rfl, Nat.le_of_ble_eq_true rfl⟩ [] (of_decide_eq_true rfl) (of_decide_eq_true rfl) rfl rfl rfl (fun H locs hP hD hS => ?_)
        refine lv_lstore_n (lv' := [(3, .long o_35), (5, .int s_24.2.1), (0, .ref h0), (1, .int p1), (2, .int p2)]) hx hb dX12_trials_69 rfl hl (of_decide_eq_true rfl) rfl (fun ls hl => ?_)
        refine lv_iinc (v := (s_24.2.1 + 1)) (lv' := [(5, .int (s_24.2.1 + 1)), (3, .long o_35), (0, .ref h0), (1, .int p1), (2, .int p2)]) hx hb dX12_trials_70 hl (k := 1) rfl rfl (of_decide_eq_true rfl) rfl (fun ls hl => ?_)
        refine lv_goto (tgt := 39) hx hb dX12_trials_73 (of_decide_eq_true rfl) ?_
        exact ih_24 (o_35, (s_24.2.1 + 1), o_26.1, o_26.2.1, o_26.2.2) H locs ls hfn hP hD hS (lv_sub hl [0, 1, 2, 3, 4] rfl)
    exact lp_24 _ (0, 0, (b0 64), f16, f17) H locs ls hfn hP hD hS (lv_sub hl [0, 1, 2, 3, 4] rfl)
  have hfn := (if_pos c_23).symm.trans hfn
  refine lv_aload_n hx hb dX12_trials_27 rfl (lv_at hl 0 rfl) ?_
  refine lv_iconst (v := 4) hx hb dX12_trials_28 zci_4 ?_
  obtain ⟨o_39, hqo_39, hfn⟩ := zb_s hfn
  refine zcVi (ci := 12) (rest := []) (pc' := 32) (ws' := [(h0, .inr (12, zO a0 (zI (zI (zI b0 33 o_19.2.1) 41 o_19.2.2.1) 42 o_19.2.2.2.1) c0)), zVi (a0 2) k1 5 o_39.2, zVi (a0 17) k2 2 f2, zVi (a0 37) k3 14 f3, zVi (a0 39) k4 14 o_19.2.2.2.2.1, zVi (a0 19) k5 28 f5, zVi (a0 20) k6 28 f6, zVi (a0 21) k7 28 f7, zVl (a0 31) k8 14 o_19.2.2.2.2.2.1, zVl (a0 22) k9 28 f9, zVl (a0 23) k10 28 f10, zVl (a0 32) k11 14 o_19.2.2.2.2.2.2.1, zVi (a0 14) k12 8 f12, zVl (a0 40) k13 14 o_19.2.2.2.2.2.2.2, zVi (a0 15) k14 8 f14, zVi (a0 26) k15 28 f15, zVl (a0 65) k16 14 f16, zVl (a0 66) k17 14 f17]) hP hK hD hS hA ⟨hx, hb, hml, hown, hts⟩ (zf_X12_refuses l dC dI h0 4 a0 (zI (zI (zI b0 33 o_19.2.1) 41 o_19.2.2.1) 42 o_19.2.2.2.1) c0 k1 f1 o_39 hqo_39 H.size) (cwV 1 hts gX12_trials_X12_refuses rfl rfl rfl zhd_X12_refuses ⟨Nat.le_of_ble_eq_true rfl, Nat.le_of_ble_eq_true rfl⟩) [0, 1] rfl (of_decide_eq_true rfl) [0] rfl rfl rfl rfl hl.1 rfl (Nat.le_of_ble_eq_true rfl) dX12_trials_29 ⟨Nat.le_of_ble_eq_true rfl, Nat.le_of_ble_eq_true rfl⟩ [some 0, some 1] (of_decide_eq_true rfl) (of_decide_eq_true rfl) rfl rfl rfl (fun H locs hP hD hS => ?_)
  refine lv_i2l (v := o_39.1.toInt64) hx hb dX12_trials_32 rfl ?_
  have ho := Option.some.inj hfn
  subst ho
  exact zrl hx hb hr hK hP hD hS hQ rfl hlocks dX12_trials_33
theorem zw_X12_trial_1387 : Cond.constantLong RX12 381 (-1000000000000000) ∈ wsX12_trial := List.mem_of_getElem? (i := 1) (by decide +kernel)
theorem zn_X12_trial_X12 : ∀ w ∈ wsX120, w ∈ wsX12_trial := fun _ h => List.mem_cons_of_mem _ (List.mem_append_right _ h)
theorem zw_X12_trial_1389 : Cond.fieldLink RX12 207 "ShortEnoughModel" "seedNow" "I" ∈ wsX12_trial := List.mem_of_getElem? (i := 2) (by decide +kernel)
theorem zw_X12_trial_1390 : Cond.fieldLink RX12 210 "ShortEnoughModel" "exact" "[J" ∈ wsX12_trial := List.mem_of_getElem? (i := 4) (by decide +kernel)
theorem zw_X12_trial_1391 : Cond.fieldLink RX12 213 "ShortEnoughModel" "keptAs" "[J" ∈ wsX12_trial := List.mem_of_getElem? (i := 3) (by decide +kernel)
set_option maxHeartbeats 4000000 in
set_option maxRecDepth 100000 in
theorem zf_X12_trial (l : Launch) (dC : Nat → ClassId) (dI : Nat → Nat → Nat) (h0 : Nat) (p1 : Int32) (p2 : Int32) (a0 : Nat → Nat) (b0 : Nat → Int32) (c0 : Nat → Int64) (k1 : Nat) (f1 : Nat → Int32) (k2 : Nat) (f2 : Nat → Int32) (k3 : Nat) (f3 : Nat → Int32) (k4 : Nat) (f4 : Nat → Int32) (k5 : Nat) (f5 : Nat → Int32) (k6 : Nat) (f6 : Nat → Int32) (k7 : Nat) (f7 : Nat → Int64) (k8 : Nat) (f8 : Nat → Int64) (k9 : Nat) (f9 : Nat → Int64) (k10 : Nat) (f10 : Nat → Int64) (k11 : Nat) (f11 : Nat → Int32) (k12 : Nat) (f12 : Nat → Int64) (k13 : Nat) (f13 : Nat → Int32) (k14 : Nat) (f14 : Nat → Int32) (k15 : Nat) (f15 : Nat → Int64) (k16 : Nat) (f16 : Nat → Int64) (o : Int64 × Int32 × Int32 × Int32 × Int32 × (Nat → Int32) × (Nat → Int64) × (Nat → Int64) × (Nat → Int64) × (Nat → Int64) × (Nat → Int64)) (hfn : fn_X12_trial p1 p2 (b0 33) (c0 34) (b0 38) (b0 41) (b0 42) (b0 64) f1 f2 f3 f4 f5 f6 f7 f8 f9 f10 f11 f12 f13 f14 f15 f16 = some o) (sz : Nat) : zMl l yX12_trial wsX12_trial ({ frames := 6, cells := 0, slots := 0, locals := 154 }) (dC, dI) vwCl [.ref h0, .int p1, .int p2] [(h0, .inr (12, zO a0 b0 c0)), zVi (a0 17) k1 2 f1, zVi (a0 37) k2 14 f2, zVi (a0 39) k3 14 f3, zVi (a0 19) k4 28 f4, zVi (a0 20) k5 28 f5, zVi (a0 21) k6 28 f6, zVl (a0 31) k7 14 f7, zVl (a0 22) k8 28 f8, zVl (a0 23) k9 28 f9, zVl (a0 32) k10 14 f10, zVi (a0 14) k11 8 f11, zVl (a0 40) k12 14 f12, zVi (a0 15) k13 8 f13, zVi (a0 26) k14 28 f14, zVl (a0 65) k15 14 f15, zVl (a0 66) k16 14 f16] [(k1, .int), (k2, .int), (k3, .int), (k4, .int), (k5, .int), (k6, .int), (k7, .long), (k8, .long), (k9, .long), (k10, .long), (k11, .int), (k12, .long), (k13, .int), (k14, .int), (k15, .long), (k16, .long)] (fun r _ => r = o.1) [(h0, .inr (12, zO a0 (zI (zI (zI (zI b0 33 o.2.1) 41 o.2.2.1) 42 o.2.2.2.1) 64 o.2.2.2.2.1) c0)), zVi (a0 17) k1 2 f1, zVi (a0 37) k2 14 f2, zVi (a0 39) k3 14 o.2.2.2.2.2.1, zVi (a0 19) k4 28 f4, zVi (a0 20) k5 28 f5, zVi (a0 21) k6 28 f6, zVl (a0 31) k7 14 o.2.2.2.2.2.2.1, zVl (a0 22) k8 28 f8, zVl (a0 23) k9 28 f9, zVl (a0 32) k10 14 o.2.2.2.2.2.2.2.1, zVi (a0 14) k11 8 f11, zVl (a0 40) k12 14 o.2.2.2.2.2.2.2.2.1, zVi (a0 15) k13 8 f13, zVi (a0 26) k14 28 f14, zVl (a0 65) k15 14 o.2.2.2.2.2.2.2.2.2.1, zVl (a0 66) k16 14 o.2.2.2.2.2.2.2.2.2.2] [(k1, .int), (k2, .int), (k3, .int), (k4, .int), (k5, .int), (k6, .int), (k7, .long), (k8, .long), (k9, .long), (k10, .long), (k11, .int), (k12, .long), (k13, .int), (k14, .int), (k15, .long), (k16, .long)] sz := by
  refine zgol (cc := cX12_trial) (maxL := 4) (ret := (some .long)) (C0 := RX12) (lv0 := [(0, .ref h0), (1, .int p1), (2, .int p2)]) zpl_X12 rfl rfl rfl (Nat.le_of_ble_eq_true rfl) ?_
  intro p e s m below meth c A ls Q hx hb hr hts hown hlocks hml hP hK hD hA hS hl hQ
  unfold fn_X12_trial at hfn
  refine lv_aload_n hx hb dX12_trial_0 rfl (lv_at hl 0 rfl) ?_
  refine lv_iload_n hx hb dX12_trial_1 rfl (lv_at hl 1 rfl) ?_
  obtain ⟨o_1, hqo_1, hfn⟩ := zb_s hfn
  refine zcVb (ci := 12) (rest := []) (pc' := 5) (ws' := [(h0, .inr (12, zO a0 b0 c0)), zVi (a0 17) k1 2 f1, zVi (a0 37) k2 14 f2, zVi (a0 39) k3 14 f3, zVi (a0 19) k4 28 f4, zVi (a0 20) k5 28 f5, zVi (a0 21) k6 28 f6, zVl (a0 31) k7 14 f7, zVl (a0 22) k8 28 f8, zVl (a0 23) k9 28 f9, zVl (a0 32) k10 14 f10, zVi (a0 14) k11 8 f11, zVl (a0 40) k12 14 f12, zVi (a0 15) k13 8 f13, zVi (a0 26) k14 28 f14, zVl (a0 65) k15 14 f15, zVl (a0 66) k16 14 f16]) hP hK hD hS hA ⟨hx, hb, hml, hown, hts⟩ (zf_X12_isNumber l dC dI h0 p1 a0 b0 c0 k1 f1 o_1 hqo_1 s.heap.size) (cwV 1 hts gX12_trial_X12_isNumber rfl rfl rfl zhd_X12_isNumber ⟨Nat.le_of_ble_eq_true rfl, Nat.le_of_ble_eq_true rfl⟩) [0, 1] rfl (of_decide_eq_true rfl) [0] rfl rfl rfl rfl hl.1 rfl (Nat.le_of_ble_eq_true rfl) dX12_trial_2 ⟨Nat.le_of_ble_eq_true rfl, Nat.le_of_ble_eq_true rfl⟩ [some 0, some 1] (of_decide_eq_true rfl) (of_decide_eq_true rfl) rfl rfl rfl (fun H locs hw_4n hP hD hS => ?_)
  refine lv_if_eq (tgt := 15) hx hb dX12_trial_5 (of_decide_eq_true rfl) (fun c_5 => ?_) (fun c_5 => ?_)
  · have hfn := (if_pos c_5).symm.trans hfn
    refine lv_ldc2 (v := (-1000000000000000)) hx hb hown (hts (.constantLong RX12 381 (-1000000000000000)) zw_X12_trial_1387) dX12_trial_15 ?_
    have ho := Option.some.inj hfn
    subst ho
    exact zrl hx hb hr hK hP hD hS hQ rfl hlocks dX12_trial_18
  have hfn := (if_neg c_5).symm.trans hfn
  refine lv_aload_n hx hb dX12_trial_8 rfl (lv_at hl 0 rfl) ?_
  obtain ⟨o_6, hqo_6, hfn⟩ := zb_s hfn
  refine zcVb (ci := 12) (rest := []) (pc' := 12) (ws' := [(h0, .inr (12, zO a0 (zI (zI (zI b0 33 o_6.2.1) 41 o_6.2.2.1) 42 o_6.2.2.2.1) c0)), zVi (a0 17) k1 2 f1, zVi (a0 37) k2 14 f2, zVi (a0 39) k3 14 o_6.2.2.2.2.1, zVi (a0 19) k4 28 f4, zVi (a0 20) k5 28 f5, zVi (a0 21) k6 28 f6, zVl (a0 31) k7 14 o_6.2.2.2.2.2.1, zVl (a0 22) k8 28 f8, zVl (a0 23) k9 28 f9, zVl (a0 32) k10 14 o_6.2.2.2.2.2.2.1, zVi (a0 14) k11 8 f11, zVl (a0 40) k12 14 o_6.2.2.2.2.2.2.2, zVi (a0 15) k13 8 f13, zVi (a0 26) k14 28 f14, zVl (a0 65) k15 14 f15, zVl (a0 66) k16 14 f16]) hP hK hD hS hA ⟨hx, hb, hml, hown, hts⟩ (zf_X12_handPasses l dC dI h0 a0 b0 c0 k1 f1 k2 f2 k3 f3 k4 f4 k5 f5 k6 f6 k7 f7 k8 f8 k9 f9 k10 f10 k11 f11 k12 f12 k13 f13 k14 f14 o_6 hqo_6 H.size) (cwV 0 hts gX12_trial_X12_handPasses rfl rfl rfl zhd_X12_handPasses ⟨Nat.le_of_ble_eq_true rfl, Nat.le_of_ble_eq_true rfl⟩) [0, 1, 2, 3, 4, 5, 6, 7, 8, 9, 10, 11, 12, 13, 14] rfl (of_decide_eq_true rfl) [0, 1, 2, 3, 4, 5, 6, 7, 8, 9, 10, 11, 12, 13] rfl rfl rfl rfl hl.1 rfl (Nat.le_of_ble_eq_true rfl) dX12_trial_9 ⟨Nat.le_of_ble_eq_true rfl, Nat.le_of_ble_eq_true rfl⟩ [some 0, some 1, some 2, some 3, some 4, some 5, some 6, some 7, some 8, some 9, some 10, some 11, some 12, some 13, some 14] (of_decide_eq_true rfl) (of_decide_eq_true rfl) rfl rfl rfl (fun H locs hw_9n hP hD hS => ?_)
  refine lv_if_ne (tgt := 19) hx hb dX12_trial_12 (of_decide_eq_true rfl) (fun c_10 => ?_) (fun c_10 => ?_)
  · have hfn := (if_neg c_10).symm.trans hfn
    refine lv_aload_n hx hb dX12_trial_19 rfl (lv_at hl 0 rfl) ?_
    refine va_get (D := (dC, dI)) (ci := 12) (v := .int (b0 64)) (C := RX12) (T := TX12) (N := 67) hx hb hts zn_X12_trial_X12 hown hK hP 0 rfl rfl 64 (of_decide_eq_true rfl) (hts (.fieldLink RX12 207 "ShortEnoughModel" "seedNow" "I") zw_X12_trial_1389) (fun _ h9 => h9) rfl dX12_trial_20 ?_
    refine lv_istore_n (lv' := [(3, .int (b0 64)), (0, .ref h0), (1, .int p1), (2, .int p2)]) hx hb dX12_trial_23 rfl hl (of_decide_eq_true rfl) rfl (fun ls hl => ?_)
    refine lv_aload_n hx hb dX12_trial_24 rfl (lv_at hl 1 rfl) ?_
    obtain ⟨o_11, hqo_11, hfn⟩ := zb_s hfn
    refine zcVv (ci := 12) (rest := []) (pc' := 28) (ws' := [(h0, .inr (12, zO a0 (zI (zI (zI (zI b0 33 o_6.2.1) 41 o_6.2.2.1) 42 o_6.2.2.2.1) 64 o_11.1) c0)), zVi (a0 17) k1 2 f1, zVi (a0 37) k2 14 f2, zVi (a0 39) k3 14 o_6.2.2.2.2.1, zVi (a0 19) k4 28 f4, zVi (a0 20) k5 28 f5, zVi (a0 21) k6 28 f6, zVl (a0 31) k7 14 o_6.2.2.2.2.2.1, zVl (a0 22) k8 28 f8, zVl (a0 23) k9 28 f9, zVl (a0 32) k10 14 o_6.2.2.2.2.2.2.1, zVi (a0 14) k11 8 f11, zVl (a0 40) k12 14 o_6.2.2.2.2.2.2.2, zVi (a0 15) k13 8 f13, zVi (a0 26) k14 28 f14, zVl (a0 65) k15 14 o_11.2.1, zVl (a0 66) k16 14 o_11.2.2]) hP hK hD hS hA ⟨hx, hb, hml, hown, hts⟩ (zf_X12_triesOnce l dC dI h0 a0 (zI (zI (zI b0 33 o_6.2.1) 41 o_6.2.2.1) 42 o_6.2.2.2.1) c0 k1 f1 k2 f2 k11 f11 k4 f4 k5 f5 k6 f6 k15 f15 k8 f8 k9 f9 k16 f16 o_11 hqo_11 H.size) (cwV 0 hts gX12_trial_X12_triesOnce rfl rfl rfl zhd_X12_triesOnce ⟨Nat.le_of_ble_eq_true rfl, Nat.le_of_ble_eq_true rfl⟩) [0, 1, 2, 11, 4, 5, 6, 15, 8, 9, 16] rfl (of_decide_eq_true rfl) [0, 1, 10, 3, 4, 5, 14, 7, 8, 15] rfl rfl rfl rfl hl.1 rfl (Nat.le_of_ble_eq_true rfl) dX12_trial_25 ⟨Nat.le_of_ble_eq_true rfl, Nat.le_of_ble_eq_true rfl⟩ [some 0, some 1, some 2, none, some 4, some 5, some 6, none, some 8, some 9, none, some 3, none, none, none, some 7, some 10] (of_decide_eq_true rfl) (of_decide_eq_true rfl) rfl rfl rfl (fun H locs hP hD hS => ?_)
    refine lv_aload_n hx hb dX12_trial_28 rfl (lv_at hl 1 rfl) ?_
    refine lv_iload_n hx hb dX12_trial_29 rfl (lv_at hl 0 rfl) ?_
    refine va_put (D := (dC, dI)) (ci := 12) (v := .int (b0 64)) (ty := .int) (C := RX12) (T := TX12) (N := 67) hx hb hts zn_X12_trial_X12 tyX12 tyX12_ok nmX12 hown hK hP hD hS 0 rfl rfl 64 (of_decide_eq_true rfl) (hts (.fieldLink RX12 207 "ShortEnoughModel" "seedNow" "I") zw_X12_trial_1389) (fun _ h9 => h9) rfl (tyX12_ok 64 (of_decide_eq_true rfl)) rfl rfl (Nat.le_of_ble_eq_true rfl) dX12_trial_30 (fun H locs hP hD hS => ?_)
    have hP : va_P (dC, dI) vwCl [(h0, .inr (12, zO a0 (zI (zI (zI b0 33 o_6.2.1) 41 o_6.2.2.1) 42 o_6.2.2.2.1) c0)), zVi (a0 17) k1 2 f1, zVi (a0 37) k2 14 f2, zVi (a0 39) k3 14 o_6.2.2.2.2.1, zVi (a0 19) k4 28 f4, zVi (a0 20) k5 28 f5, zVi (a0 21) k6 28 f6, zVl (a0 31) k7 14 o_6.2.2.2.2.2.1, zVl (a0 22) k8 28 f8, zVl (a0 23) k9 28 f9, zVl (a0 32) k10 14 o_6.2.2.2.2.2.2.1, zVi (a0 14) k11 8 f11, zVl (a0 40) k12 14 o_6.2.2.2.2.2.2.2, zVi (a0 15) k13 8 f13, zVi (a0 26) k14 28 f14, zVl (a0 65) k15 14 o_11.2.1, zVl (a0 66) k16 14 o_11.2.2] H := hP
    have hD := zDW hD hP rfl
    refine lv_iload_n hx hb dX12_trial_33 rfl (lv_at hl 3 rfl) ?_
    refine lv_if_eq (tgt := 46) hx hb dX12_trial_34 (of_decide_eq_true rfl) (fun c_15 => ?_) (fun c_15 => ?_)
    · have hfn := (if_pos c_15).symm.trans hfn
      refine lv_aload_n hx hb dX12_trial_46 rfl (lv_at hl 1 rfl) ?_
      refine va_get (D := (dC, dI)) (ci := 12) (v := .ref (a0 65)) (C := RX12) (T := TX12) (N := 67) hx hb hts zn_X12_trial_X12 hown hK hP 0 rfl rfl 65 (of_decide_eq_true rfl) (hts (.fieldLink RX12 210 "ShortEnoughModel" "exact" "[J") zw_X12_trial_1390) (fun _ h9 => h9) rfl dX12_trial_47 ?_
      refine lv_iload_n hx hb dX12_trial_50 rfl (lv_at hl 2 rfl) ?_
      obtain ⟨h_16, hfn⟩ := zg_s hfn
      refine va_lald hx hb hK hP 15 14 rfl rfl h_16 dX12_trial_51 ?_
      have ho := Option.some.inj hfn
      subst ho
      exact zrl hx hb hr hK hP hD hS hQ rfl hlocks dX12_trial_52
    have hfn := (if_neg c_15).symm.trans hfn
    refine lv_aload_n hx hb dX12_trial_37 rfl (lv_at hl 1 rfl) ?_
    refine va_get (D := (dC, dI)) (ci := 12) (v := .ref (a0 66)) (C := RX12) (T := TX12) (N := 67) hx hb hts zn_X12_trial_X12 hown hK hP 0 rfl rfl 66 (of_decide_eq_true rfl) (hts (.fieldLink RX12 213 "ShortEnoughModel" "keptAs" "[J") zw_X12_trial_1391) (fun _ h9 => h9) rfl dX12_trial_38 ?_
    refine lv_iload_n hx hb dX12_trial_41 rfl (lv_at hl 2 rfl) ?_
    obtain ⟨h_17, hfn⟩ := zg_s hfn
    refine va_lald hx hb hK hP 16 15 rfl rfl h_17 dX12_trial_42 ?_
    refine lv_goto (tgt := 52) hx hb dX12_trial_43 (of_decide_eq_true rfl) ?_
    have ho := Option.some.inj hfn
    subst ho
    exact zrl hx hb hr hK hP hD hS hQ rfl hlocks dX12_trial_52
  have hfn := (if_pos c_10).symm.trans hfn
  refine lv_ldc2 (v := (-1000000000000000)) hx hb hown (hts (.constantLong RX12 381 (-1000000000000000)) zw_X12_trial_1387) dX12_trial_15 ?_
  have ho := Option.some.inj hfn
  subst ho
  exact zrl hx hb hr hK hP hD hS hQ rfl hlocks dX12_trial_18
theorem zn_X12_seed_X12 : ∀ w ∈ wsX120, w ∈ wsX12_seed := fun _ h => List.mem_cons_of_mem _ (List.mem_append_right _ h)
theorem zw_X12_seed_1393 : Cond.fieldLink RX12 207 "ShortEnoughModel" "seedNow" "I" ∈ wsX12_seed := List.mem_of_getElem? (i := 1) (by decide +kernel)
set_option maxHeartbeats 4000000 in
set_option maxRecDepth 100000 in
theorem zf_X12_seed (l : Launch) (dC : Nat → ClassId) (dI : Nat → Nat → Nat) (h0 : Nat) (p1 : Int32) (a0 : Nat → Nat) (b0 : Nat → Int32) (c0 : Nat → Int64) (k1 : Nat) (f1 : Nat → Int32) (o : Int32 × Int32 × (Nat → Int32)) (hfn : fn_X12_seed p1 (b0 64) f1 = some o) (sz : Nat) : zMi l yX12_seed wsX12_seed ({ frames := 1, cells := 0, slots := 0, locals := 21 }) (dC, dI) vwCl [.ref h0, .int p1] [(h0, .inr (12, zO a0 b0 c0)), zVi (a0 2) k1 5 f1] [(k1, .int)] (fun r _ => r = o.1 ∧ narrow .boolean (.int o.1) = .int o.1) [(h0, .inr (12, zO a0 (zI b0 64 o.2.1) c0)), zVi (a0 2) k1 5 o.2.2] [(k1, .int)] sz := by
  refine zgoi (cc := cX12_seed) (maxL := 2) (ret := (some .boolean)) (C0 := RX12) (lv0 := [(0, .ref h0), (1, .int p1)]) zpl_X12 rfl rfl rfl (Nat.le_of_ble_eq_true rfl) ?_
  intro p e s m below meth c A ls Q hx hb hr hts hown hlocks hml hP hK hD hA hS hl hQ
  unfold fn_X12_seed at hfn
  refine lv_iload_n hx hb dX12_seed_0 rfl (lv_at hl 1 rfl) ?_
  refine lv_if_ge (tgt := 10) hx hb dX12_seed_1 (of_decide_eq_true rfl) (fun c_1 => ?_) (fun c_1 => ?_)
  · have hfn := (if_pos c_1).symm.trans hfn
    refine lv_aload_n hx hb dX12_seed_10 rfl (lv_at hl 0 rfl) ?_
    refine lv_iload_n hx hb dX12_seed_11 rfl (lv_at hl 1 rfl) ?_
    refine va_put (D := (dC, dI)) (ci := 12) (v := .int p1) (ty := .int) (C := RX12) (T := TX12) (N := 67) hx hb hts zn_X12_seed_X12 tyX12 tyX12_ok nmX12 hown hK hP hD hS 0 rfl rfl 64 (of_decide_eq_true rfl) (hts (.fieldLink RX12 207 "ShortEnoughModel" "seedNow" "I") zw_X12_seed_1393) (fun _ h9 => h9) rfl (tyX12_ok 64 (of_decide_eq_true rfl)) rfl rfl (Nat.le_of_ble_eq_true rfl) dX12_seed_12 (fun H locs hP hD hS => ?_)
    have hP : va_P (dC, dI) vwCl [(h0, .inr (12, zO a0 (zI b0 64 p1) c0)), zVi (a0 2) k1 5 f1] H := hP
    have hD := zDW hD hP rfl
    refine lv_iconst (v := 1) hx hb dX12_seed_15 zci_1 ?_
    have ho := Option.some.inj hfn
    subst ho
    exact zrz hx hb hr rfl hK hP hD hS hQ ⟨rfl, zB1⟩ hlocks dX12_seed_16
  have hfn := (if_neg c_1).symm.trans hfn
  refine lv_aload_n hx hb dX12_seed_4 rfl (lv_at hl 0 rfl) ?_
  refine lv_iconst (v := 4) hx hb dX12_seed_5 zci_4 ?_
  obtain ⟨o_2, hqo_2, hfn⟩ := zb_s hfn
  refine zcVb (ci := 12) (rest := []) (pc' := 9) (ws' := [(h0, .inr (12, zO a0 b0 c0)), zVi (a0 2) k1 5 o_2.2]) hP hK hD hS hA ⟨hx, hb, hml, hown, hts⟩ (zf_X12_isRefused l dC dI h0 4 a0 b0 c0 k1 f1 o_2 hqo_2 s.heap.size) (cwV 1 hts gX12_seed_X12_isRefused rfl rfl rfl zhd_X12_isRefused ⟨Nat.le_of_ble_eq_true rfl, Nat.le_of_ble_eq_true rfl⟩) [0, 1] rfl (of_decide_eq_true rfl) [0] rfl rfl rfl rfl hl.1 rfl (Nat.le_of_ble_eq_true rfl) dX12_seed_6 ⟨Nat.le_of_ble_eq_true rfl, Nat.le_of_ble_eq_true rfl⟩ [some 0, some 1] (of_decide_eq_true rfl) (of_decide_eq_true rfl) rfl rfl rfl (fun H locs hw_5n hP hD hS => ?_)
  have ho := Option.some.inj hfn
  subst ho
  exact zrz hx hb hr hw_5n hK hP hD hS hQ ⟨rfl, hw_5n⟩ hlocks dX12_seed_9
theorem zw_X12_status_1394 : Cond.constantLong RX12 550 (4) ∈ wsX12_status := List.mem_of_getElem? (i := 1) (by decide +kernel)
theorem zn_X12_status_X12 : ∀ w ∈ wsX120, w ∈ wsX12_status := fun _ h => List.mem_cons_of_mem _ (List.mem_append_right _ h)
theorem zw_X12_status_1396 : Cond.fieldLink RX12 17 "ShortEnoughModel" "refused" "[I" ∈ wsX12_status := List.mem_of_getElem? (i := 2) (by decide +kernel)
set_option maxHeartbeats 4000000 in
set_option maxRecDepth 100000 in
theorem zf_X12_status (l : Launch) (dC : Nat → ClassId) (dI : Nat → Nat → Nat) (h0 : Nat) (p1 : Int32) (a0 : Nat → Nat) (b0 : Nat → Int32) (c0 : Nat → Int64) (k1 : Nat) (f1 : Nat → Int32) (o : Int32) (hfn : fn_X12_status p1 f1 = some o) (sz : Nat) : zMi l yX12_status wsX12_status ({ frames := 1, cells := 0, slots := 0, locals := 25 }) (dC, dI) vwCl [.ref h0, .int p1] [(h0, .inr (12, zO a0 b0 c0)), zVi (a0 2) k1 5 f1] [(k1, .int)] (fun r _ => r = o) [(h0, .inr (12, zO a0 b0 c0)), zVi (a0 2) k1 5 f1] [(k1, .int)] sz := by
  refine zgoi (cc := cX12_status) (maxL := 2) (ret := (some .int)) (C0 := RX12) (lv0 := [(0, .ref h0), (1, .int p1)]) zpl_X12 rfl rfl rfl (Nat.le_of_ble_eq_true rfl) ?_
  intro p e s m below meth c A ls Q hx hb hr hts hown hlocks hml hP hK hD hA hS hl hQ
  unfold fn_X12_status at hfn
  refine lv_iload_n hx hb dX12_status_0 rfl (lv_at hl 1 rfl) ?_
  refine lv_i2l (v := p1.toInt64) hx hb dX12_status_1 rfl ?_
  refine lv_lconst (v := 0) hx hb dX12_status_2 (by decide +kernel) ?_
  refine lv_ldc2 (v := 4) hx hb hown (hts (.constantLong RX12 550 (4)) zw_X12_status_1394) dX12_status_3 ?_
  obtain ⟨o_1, hqo_1, hfn⟩ := zb_s hfn
  refine zcSb (rest := []) (pc' := 9) (ws' := [(h0, .inr (12, zO a0 b0 c0)), zVi (a0 2) k1 5 f1]) hP hK hD hS hA ⟨hx, hb, hml, hown, hts⟩ (zf_X12_isIn l dC dI p1.toInt64 (0 : Int64) (4 : Int64) o_1 hqo_1 s.heap.size) (va_cwS 3 hts gX12_status_X12_isIn rfl rfl rfl zhd_X12_isIn.2 ⟨Nat.le_of_ble_eq_true rfl, Nat.le_of_ble_eq_true rfl⟩) [] rfl (of_decide_eq_true rfl) [] rfl rfl hl.1 rfl (Nat.le_of_ble_eq_true rfl) dX12_status_6 ⟨Nat.le_of_ble_eq_true rfl, Nat.le_of_ble_eq_true rfl⟩ [] (of_decide_eq_true rfl) (of_decide_eq_true rfl) rfl rfl rfl (fun H locs hw_4n hP hD hS => ?_)
  refine lv_if_eq (tgt := 21) hx hb dX12_status_9 (of_decide_eq_true rfl) (fun c_5 => ?_) (fun c_5 => ?_)
  · have hfn := (if_pos c_5).symm.trans hfn
    refine lv_iconst (v := (-1)) hx hb dX12_status_21 zci_m1 ?_
    have ho := Option.some.inj hfn
    subst ho
    exact zri hx hb hr hK hP hD hS hQ rfl hlocks dX12_status_22
  have hfn := (if_neg c_5).symm.trans hfn
  refine lv_aload_n hx hb dX12_status_12 rfl (lv_at hl 0 rfl) ?_
  refine va_get (D := (dC, dI)) (ci := 12) (v := .ref (a0 2)) (C := RX12) (T := TX12) (N := 67) hx hb hts zn_X12_status_X12 hown hK hP 0 rfl rfl 2 (of_decide_eq_true rfl) (hts (.fieldLink RX12 17 "ShortEnoughModel" "refused" "[I") zw_X12_status_1396) (fun _ h9 => h9) rfl dX12_status_13 ?_
  refine lv_iload_n hx hb dX12_status_16 rfl (lv_at hl 1 rfl) ?_
  obtain ⟨h_6, hfn⟩ := zg_s hfn
  refine va_iald hx hb hK hP 1 0 rfl rfl h_6 dX12_status_17 ?_
  refine lv_goto (tgt := 22) hx hb dX12_status_18 (of_decide_eq_true rfl) ?_
  have ho := Option.some.inj hfn
  subst ho
  exact zri hx hb hr hK hP hD hS hQ rfl hlocks dX12_status_22
/-! what a function's answer keeps: it is there, and P holds of it -/
noncomputable def zw {ρ : Type} (e : Option ρ) (P : ρ → Prop) : Prop := ∃ r, e = some r ∧ P r
theorem zw_some {ρ : Type} {r : ρ} {P : ρ → Prop} (h : P r) : zw (some r) P := ⟨r, rfl, h⟩
theorem zw_mono {ρ : Type} {e : Option ρ} {P Q : ρ → Prop} (h : zw e P) (hq : ∀ r, P r → Q r) : zw e Q := by
  obtain ⟨r, e1, e2⟩ := h
  exact ⟨r, e1, hq r e2⟩
theorem zw_if {ρ : Type} {c : Prop} [Decidable c] {a b : Option ρ} {P : ρ → Prop} (h1 : c → zw a P) (h2 : ¬ c → zw b P) : zw (if c then a else b) P := by
  by_cases h : c
  · rw [if_pos h]; exact h1 h
  · rw [if_neg h]; exact h2 h
theorem zw_zb {α ρ : Type} {o : Option α} {k : α → Option ρ} {P : ρ → Prop} {P' : α → Prop} (h : zw o P') (h2 : ∀ a, o = some a → P' a → zw (k a) P) : zw (zb o k) P := by
  obtain ⟨r, e1, e2⟩ := h
  subst e1
  exact h2 r rfl e2
theorem zw_zg {ρ : Type} {i : Int32} {n : Nat} {e : Option ρ} {P : ρ → Prop} (h : 0 ≤ i.toInt ∧ i.toInt < (n : Int)) (h2 : zw e P) : zw (zg i n e) P := by
  unfold zg
  rw [if_pos h]; exact h2
theorem zw_zd {α ρ : Type} [DecidableEq α] [OfNat α 0] {y : α} {e : Option ρ} {P : ρ → Prop} (h : ¬ y = 0) (h2 : zw e P) : zw (zd y e) P := by
  unfold zd
  rw [if_neg h]; exact h2
theorem zw_zt {ρ : Type} {v : Int32} {e : Option ρ} {P : ρ → Prop} (h : v = 0 ∨ v = 1) (h2 : zw e P) : zw (zt v e) P := by
  unfold zt
  have : v &&& 1 = v := by
    rcases h with h | h <;> (subst h; rfl)
  rw [if_pos this]; exact h2
theorem zw_za {ρ : Type} {n : Int32} {top : Nat} {e : Option ρ} {P : ρ → Prop} (h : 0 ≤ n.toInt ∧ n.toInt ≤ (top : Int)) (h2 : zw e P) : zw (za n top e) P := by
  unfold za
  have : ¬ n < 0 ∧ n.toNatClampNeg ≤ top := by
    refine ⟨fun q => ?_, ?_⟩
    · have := Int32.lt_iff_toInt_lt.mp q
      have e0 : (0 : Int32).toInt = 0 := by decide +kernel
      omega
    · show n.toInt.toNat ≤ top
      omega
  rw [if_pos this]; exact h2
theorem zw_zn {α ρ : Type} {a : α} {k : α → Option ρ} {P : ρ → Prop} (h : ∀ x, x = a → zw (k x) P) : zw (zn a k) P := h a rfl
theorem zw_zj {σ ρ : Type} {j : σ → Option ρ} {k : (σ → Option ρ) → Option ρ} {P : ρ → Prop} (J : σ → Prop) (h1 : ∀ s, J s → zw (j s) P) (h2 : ∀ j' : σ → Option ρ, (∀ s, J s → zw (j' s) P) → zw (k j') P) : zw (zj j k) P := h2 j h1
theorem zw_zl {σ ρ : Type} {B : σ → (σ → Option ρ) → Option ρ} {n : Nat} {s : σ} {P : ρ → Prop} (I : σ → Prop) (μ : σ → Nat) (hI : I s) (hn : μ s < n) (hB : ∀ (s : σ) (back : σ → Option ρ), I s → (∀ t, I t → μ t < μ s → zw (back t) P) → zw (B s back) P) : zw (zl B n s) P := by
  induction n generalizing s with
  | zero => exact absurd hn (Nat.not_lt_zero _)
  | succ n ih => exact hB s (zl B n) hI (fun t ht hm => ih ht (by omega))
theorem zu_at (f : Nat → Int32) (k : Nat) (x : Int32) (j : Nat) : upd f k x j = if j = k then x else f j := rfl
theorem zu_atL (f : Nat → Int64) (k : Nat) (x : Int64) (j : Nat) : vp_updL f k x j = if j = k then x else f j := rfl
theorem zi_1' : (1 : Int32).toInt = 1 := by decide +kernel
theorem zi_0 : (0 : Int32).toInt = 0 := by decide +kernel
theorem zw_zb0 {α ρ : Type} {o : Option α} {k : α → Option ρ} {P : ρ → Prop} {P' : α → Prop} (h : zw o P') (h2 : ∀ a, P' a → zw (k a) P) : zw (zb o k) P := zw_zb h (fun a _ h => h2 a h)
theorem zw_zg32 {ρ : Type} {i : Int32} {n : Nat} {e : Option ρ} {P : ρ → Prop} (c : Int32) (hc : c.toInt = (n : Int)) (h : 0 ≤ i ∧ i < c) (h2 : zw e P) : zw (zg i n e) P := by
  refine zw_zg ⟨?_, ?_⟩ h2
  · have := Int32.le_iff_toInt_le.mp h.1
    rw [zi_0] at this
    exact this
  · rw [← hc]; exact Int32.lt_iff_toInt_lt.mp h.2
theorem zw_za32 {ρ : Type} {i : Int32} {n : Nat} {e : Option ρ} {P : ρ → Prop} (c : Int32) (hc : c.toInt = (n : Int)) (h : 0 ≤ i ∧ i ≤ c) (h2 : zw e P) : zw (za i n e) P := by
  refine zw_za ⟨?_, ?_⟩ h2
  · have := Int32.le_iff_toInt_le.mp h.1
    rw [zi_0] at this
    exact this
  · rw [← hc]; exact Int32.le_iff_toInt_le.mp h.2
theorem zw_zgN {ρ : Type} {i : Int32} {n : Nat} {e : Option ρ} {P : ρ → Prop} (hn : n ≤ 100000) (h : 0 ≤ i ∧ i < Int32.ofNat n) (h2 : zw e P) : zw (zg i n e) P := by
  have h1 := Int32.le_iff_toInt_le.mp h.1
  rw [zi_0] at h1
  have h3 := Int32.lt_iff_toInt_lt.mp h.2
  rw [Int32.toInt_ofNat_of_lt (by omega)] at h3
  exact zw_zg ⟨h1, h3⟩ h2
theorem zofn (p : Int32) (h : 0 ≤ p) : Int32.ofNat p.toNatClampNeg = p ∧ (p.toNatClampNeg : Int) = p.toInt := by
  have h1 := Int32.le_iff_toInt_le.mp h
  rw [zi_0] at h1
  have h2 := Int32.toInt_lt p
  have h3 : (p.toNatClampNeg : Int) = p.toInt := by
    show ((p.toInt.toNat : Nat) : Int) = _
    omega
  refine ⟨Int32.toInt_inj.mp ?_, h3⟩
  rw [Int32.toInt_ofNat_of_lt (by omega), h3]
theorem z64_32 (x : Int32) : x.toInt64.toInt32 = x := by
  apply Int32.toInt_inj.mp
  simp
theorem z64_i (x : Int32) : x.toInt64.toInt = x.toInt := by simp
theorem z64_le (x y : Int32) : x.toInt64 ≤ y.toInt64 ↔ x ≤ y := by
  rw [Int64.le_iff_toInt_le, Int32.le_iff_toInt_le, z64_i, z64_i]
theorem z64_0 (x : Int32) : x.toInt64 = 0 ↔ x = 0 := by
  rw [← Int64.toInt_inj, ← Int32.toInt_inj, z64_i]
  rfl
theorem zhalf (x : Int32) (h : 0 ≤ x) : 0 ≤ x / 2 ∧ x / 2 ≤ x ∧ x / 2 + x / 2 ≤ x := by
  have h1 := Int32.le_iff_toInt_le.mp h
  rw [zi_0] at h1
  have k2 : (2 : Int32).toInt = 2 := by decide +kernel
  have h2 := zo_idiv (x := x) (y := 2) (z := x / 2) rfl rfl k2 ⟨h1, by omega⟩
  have h3 := Int32.toInt_lt x
  have h4 := zo_add (x := x / 2) (y := x / 2) rfl h2 h2 (by omega)
  refine ⟨Int32.le_iff_toInt_le.mpr ?_, Int32.le_iff_toInt_le.mpr ?_, Int32.le_iff_toInt_le.mpr ?_⟩
  · rw [h2, zi_0]; omega
  · rw [h2]; omega
  · rw [h4]; omega
theorem zw_zl32 {σ ρ : Type} {B : σ → (σ → Option ρ) → Option ρ} {s : σ} {P : ρ → Prop} (I : σ → Prop) (m : σ → Int32) (hI : I s) (hn : m s < 100000) (hB : ∀ (s : σ) (back : σ → Option ρ), I s → (∀ t, I t → 0 ≤ m t → m t < m s → zw (back t) P) → zw (B s back) P) : zw (zl B 100000 s) P := by
  refine zw_zl I (fun s => (m s).toInt.toNat) hI ?_ ?_
  · have h1 := Int32.lt_iff_toInt_lt.mp hn
    have h2 : (100000 : Int32).toInt = 100000 := by decide +kernel
    rw [h2] at h1
    show (m s).toInt.toNat < 100000
    omega
  · intro s back hI hb
    refine hB s back hI (fun t ht h0 h1 => hb t ht ?_)
    have h2 := Int32.le_iff_toInt_le.mp h0
    have h3 := Int32.lt_iff_toInt_lt.mp h1
    rw [zi_0] at h2
    show (m t).toInt.toNat < (m s).toInt.toNat
    omega
theorem zmulc {a b : Int32} {A B : Int} (ha : 0 ≤ a.toInt ∧ a.toInt ≤ A) (hb : 0 ≤ b.toInt ∧ b.toInt ≤ B) (hAB : A * B < 2147483648) : 0 ≤ (a * b).toInt ∧ (a * b).toInt ≤ A * B ∧ (a * b).toInt = a.toInt * b.toInt := by
  have h1 : a.toInt * b.toInt ≤ A * B := Int.mul_le_mul ha.2 hb.2 hb.1 (by omega)
  have h2 : 0 ≤ a.toInt * b.toInt := Int.mul_nonneg ha.1 hb.1
  have h3 := zo_mul (x := a) (y := b) (z := a * b) rfl rfl rfl ⟨by omega, by omega⟩
  rw [h3]
  exact ⟨h2, h1, rfl⟩
theorem zmul4 (a b : Int32) (h1 : 0 ≤ a) (h2 : a ≤ 1024) (h3 : 0 ≤ b) (h4 : b ≤ 4) : 0 ≤ a * b ∧ a * b ≤ 4 * a := by
  have k1 := Int32.le_iff_toInt_le.mp h1
  have k2 := Int32.le_iff_toInt_le.mp h2
  have k3 := Int32.le_iff_toInt_le.mp h3
  have k4 := Int32.le_iff_toInt_le.mp h4
  rw [zi_0] at k1 k3
  rw [show (1024 : Int32).toInt = 1024 by decide +kernel] at k2
  rw [show (4 : Int32).toInt = 4 by decide +kernel] at k4
  have h := zmulc (a := a) (b := b) ⟨k1, k2⟩ ⟨k3, k4⟩ (by omega)
  have h5 := zo_mul (x := 4) (y := a) (z := 4 * a) rfl (show (4 : Int32).toInt = 4 by decide +kernel) rfl (by omega)
  have h6 : a.toInt * b.toInt ≤ a.toInt * 4 := Int.mul_le_mul_of_nonneg_left k4 k1
  refine ⟨Int32.le_iff_toInt_le.mpr ?_, Int32.le_iff_toInt_le.mpr ?_⟩
  · rw [zi_0]; exact h.1
  · rw [h.2.2, h5]; omega
theorem zmul14 (a b : Int32) (h1 : 0 ≤ a) (h2 : a ≤ 1024) (h3 : 0 ≤ b) (h4 : b ≤ 14) : 0 ≤ a * b ∧ a * b ≤ 14336 := by
  have k1 := Int32.le_iff_toInt_le.mp h1
  have k2 := Int32.le_iff_toInt_le.mp h2
  have k3 := Int32.le_iff_toInt_le.mp h3
  have k4 := Int32.le_iff_toInt_le.mp h4
  rw [zi_0] at k1 k3
  rw [show (1024 : Int32).toInt = 1024 by decide +kernel] at k2
  rw [show (14 : Int32).toInt = 14 by decide +kernel] at k4
  have h := zmulc (a := a) (b := b) ⟨k1, k2⟩ ⟨k3, k4⟩ (by omega)
  refine ⟨Int32.le_iff_toInt_le.mpr ?_, Int32.le_iff_toInt_le.mpr ?_⟩
  · rw [zi_0]; exact h.1
  · rw [show (14336 : Int32).toInt = 14336 by decide +kernel]; omega
theorem zw_ifc {ρ : Type} {c c' : Prop} [Decidable c] {a b : Option ρ} {P : ρ → Prop} (h : c ↔ c') (h1 : c' → zw a P) (h2 : ¬ c' → zw b P) : zw (if c then a else b) P := zw_if (fun q => h1 (h.mp q)) (fun q => h2 (fun r => q (h.mpr r)))
theorem zw_zn1 {α ρ : Type} {a : α} {k : α → Option ρ} {P : ρ → Prop} (h : zw (k a) P) : zw (zn a k) P := h
theorem zvn (x : Int32) : 0 ≤ vp_nar .boolean x ∧ vp_nar .boolean x ≤ 1 := by
  have h := zo_and1 (x := x) (z := x &&& 1) rfl
  refine ⟨Int32.le_iff_toInt_le.mpr ?_, Int32.le_iff_toInt_le.mpr ?_⟩
  · rw [zi_0]; exact h.1
  · rw [show (1 : Int32).toInt = 1 by decide +kernel]; exact h.2
theorem zcl (p : Int32) (c : Int32) (n : Nat) (hc : c.toInt = (n : Int)) (h : p ≤ c) : p.toNatClampNeg ≤ n := by
  have h1 := Int32.le_iff_toInt_le.mp h
  show p.toInt.toNat ≤ n
  omega
theorem zcl1024 (p : Int32) (h : p ≤ 1024) : p.toNatClampNeg ≤ 1024 := zcl p 1024 1024 (by decide) h
theorem zcl14336 (p : Int32) (h : p ≤ 14336) : p.toNatClampNeg ≤ 14336 := zcl p 14336 14336 (by decide) h
theorem zofn' (p : Int32) (h : 0 ≤ p) : Int32.ofNat p.toNatClampNeg = p := (zofn p h).1
theorem zdbl (x : Int64) (h : 1 ≤ x) : ¬ 2 * x = 0 := by
  have h0 := Int64.le_iff_toInt_le.mp h
  rw [show (1 : Int64).toInt = 1 by decide +kernel] at h0
  rcases zl_dbl (x := x) rfl with q | q
  · omega
  · exact znz q
noncomputable def zPow (g c : Int32) : Prop := g = 0 ∧ c = 1 ∨ 0 ≤ c ∧ (g = 1 ∧ c ≤ 4 ∨ g = 2 ∧ c ≤ 16 ∨ g = 3 ∧ c ≤ 64 ∨ g = 4 ∧ c ≤ 256 ∨ g = 5 ∧ c ≤ 1024)
theorem zPow_0 : zPow 0 1 := Or.inl ⟨rfl, rfl⟩
theorem zPow_rng {g c : Int32} (h : zPow g c) : 0 ≤ c ∧ c ≤ 1024 ∧ 0 ≤ g ∧ g ≤ 5 := by
  unfold zPow at h
  rcases h with ⟨rfl, rfl⟩ | ⟨h0, ⟨rfl, h⟩ | ⟨rfl, h⟩ | ⟨rfl, h⟩ | ⟨rfl, h⟩ | ⟨rfl, h⟩⟩ <;> (refine ⟨?_, ?_, ?_, ?_⟩ <;> lia)
theorem zPow_step {g c v : Int32} (h : zPow g c) (hg : ¬ 5 ≤ g) (h1 : 0 ≤ v) (h2 : v ≤ 4) : zPow (g + 1) (c * v) := by
  have hr := zPow_rng h
  obtain ⟨k1, k2⟩ := zmul4 c v hr.1 hr.2.1 h1 h2
  generalize c * v = q at k1 k2 ⊢
  unfold zPow at h ⊢
  rcases h with ⟨rfl, rfl⟩ | ⟨h0, ⟨rfl, h⟩ | ⟨rfl, h⟩ | ⟨rfl, h⟩ | ⟨rfl, h⟩ | ⟨rfl, h⟩⟩
  · exact Or.inr ⟨k1, Or.inl ⟨rfl, by lia⟩⟩
  · exact Or.inr ⟨k1, Or.inr (Or.inl ⟨rfl, by lia⟩)⟩
  · exact Or.inr ⟨k1, Or.inr (Or.inr (Or.inl ⟨rfl, by lia⟩))⟩
  · exact Or.inr ⟨k1, Or.inr (Or.inr (Or.inr (Or.inl ⟨rfl, by lia⟩)))⟩
  · exact Or.inr ⟨k1, Or.inr (Or.inr (Or.inr (Or.inr ⟨rfl, by lia⟩)))⟩
  · exact absurd (by decide) hg
theorem zinj (x y : Int32) (hx : 0 ≤ x) (hy : 0 ≤ y) (h : x.toNatClampNeg = y.toNatClampNeg) : x = y := by
  have h1 := (zofn x hx).2
  have h2 := (zofn y hy).2
  apply Int32.toInt_inj.mp
  omega
theorem z32_in (x : Int64) (h1 : 1 ≤ x) (h2 : x ≤ 1000000) : 1 ≤ x.toInt32 ∧ x.toInt32 ≤ 1000000 := by
  have k1 := Int64.le_iff_toInt_le.mp h1
  have k2 := Int64.le_iff_toInt_le.mp h2
  rw [show (1 : Int64).toInt = 1 by decide +kernel] at k1
  rw [show (1000000 : Int64).toInt = 1000000 by decide +kernel] at k2
  have k3 : x.toInt32.toInt = x.toInt := by
    rw [Int64.toInt_toInt32, Int.bmod_def]
    split <;> omega
  refine ⟨Int32.le_iff_toInt_le.mpr ?_, Int32.le_iff_toInt_le.mpr ?_⟩
  · rw [zi_1', k3]; exact k1
  · rw [show (1000000 : Int32).toInt = 1000000 by decide +kernel, k3]; exact k2
theorem zn01 : (0 : Int32).toNatClampNeg = 0 ∧ (1 : Int32).toNatClampNeg = 1 := by decide +kernel
theorem zmid {a b x : Int32} (hx : x = b - a) (h2 : ¬ x < 2) (ha : 0 ≤ a) (ha2 : a ≤ 14) (hb0 : 0 ≤ b) (hb : b ≤ 14) : 0 ≤ a + x / 2 ∧ a + x / 2 ≤ 14 := by
  have hh := zhalf x (by lia)
  generalize x / 2 = y at hh ⊢
  constructor <;> lia
/-! parts of a row, halved: no more than 27 of them -/
noncomputable def zSg (Q : Nat → Int32) : Nat → Nat → Int
  | _, 0 => 0
  | a, m + 1 => (2 * (Q a).toInt - 1) + zSg Q (a + 1) m
theorem zSg_ge (Q : Nat → Int32) : ∀ (m a : Nat), (∀ j : Nat, a ≤ j → j < a + m → 1 ≤ (Q j).toInt) → (m : Int) ≤ zSg Q a m
  | 0, _, _ => by simp [zSg]
  | m + 1, a, h => by
    have h1 := zSg_ge Q m (a + 1) (fun j h1 h2 => h j (by omega) (by omega))
    have h2 := h a (by omega) (by omega)
    simp only [zSg]
    omega
theorem zSg_congr (Q Q' : Nat → Int32) : ∀ (m a : Nat), (∀ j : Nat, a ≤ j → j < a + m → Q' j = Q j) → zSg Q' a m = zSg Q a m
  | 0, _, _ => rfl
  | m + 1, a, h => by
    simp only [zSg]
    rw [h a (by omega) (by omega), zSg_congr Q Q' m (a + 1) (fun j h1 h2 => h j (by omega) (by omega))]
theorem zSg_snoc (Q : Nat → Int32) : ∀ (m a : Nat), zSg Q a (m + 1) = zSg Q a m + (2 * (Q (a + m)).toInt - 1)
  | 0, a => by simp [zSg]
  | m + 1, a => by
    have h := zSg_snoc Q m (a + 1)
    rw [show zSg Q a (m + 1 + 1) = (2 * (Q a).toInt - 1) + zSg Q (a + 1) (m + 1) from rfl, h, show zSg Q a (m + 1) = (2 * (Q a).toInt - 1) + zSg Q (a + 1) m from rfl, show a + 1 + m = a + (m + 1) by omega]
    omega
noncomputable def zHv (n a b : Int32) (P Q : Nat → Int32) : Prop :=
  0 ≤ a.toInt ∧ a.toInt ≤ b.toInt ∧ b.toInt ≤ 27 ∧ n.toInt ≤ 14 ∧ (∀ j : Nat, a.toInt ≤ j → (j : Int) < b.toInt → 0 ≤ (P j).toInt ∧ 1 ≤ (Q j).toInt ∧ (P j).toInt + (Q j).toInt ≤ n.toInt) ∧ a.toInt + zSg Q a.toInt.toNat (b.toInt - a.toInt).toNat ≤ 27
theorem zle_c {x c : Int32} {k : Int} (hc : c.toInt = k) (h : x.toInt ≤ k) : x ≤ c := Int32.le_iff_toInt_le.mpr (by omega)
theorem zcc_le {x c : Int32} {k : Int} (hc : c.toInt = k) (h : k ≤ x.toInt) : c ≤ x := Int32.le_iff_toInt_le.mpr (by omega)
theorem zi_1 : (1 : Int32).toInt = 1 := by decide +kernel
theorem zi_2 : (2 : Int32).toInt = 2 := by decide +kernel
theorem zHv_get {n a b : Int32} {P Q : Nat → Int32} (h : zHv n a b P Q) (hab : ¬ b ≤ a) : 0 ≤ a ∧ a ≤ 26 ∧ b ≤ 27 ∧ 0 ≤ P a.toNatClampNeg ∧ P a.toNatClampNeg ≤ 13 ∧ 1 ≤ Q a.toNatClampNeg ∧ Q a.toNatClampNeg ≤ 14 ∧ P a.toNatClampNeg + Q a.toNatClampNeg ≤ 14 := by
  obtain ⟨h1, h2, h3, h4, h6, h7⟩ := h
  have k : a.toInt < b.toInt := by
    have : ¬ b.toInt ≤ a.toInt := fun q => hab (Int32.le_iff_toInt_le.mpr q)
    omega
  have ka : (a.toNatClampNeg : Int) = a.toInt := show ((a.toInt.toNat : Nat) : Int) = a.toInt by omega
  obtain ⟨p1, p2, p3⟩ := h6 a.toNatClampNeg (by omega) (by omega)
  have s := zo_add (x := P a.toNatClampNeg) (y := Q a.toNatClampNeg) rfl rfl rfl (by omega)
  exact ⟨zcc_le zi_0 h1, zle_c (k := 26) (by decide +kernel) (by omega), zle_c (k := 27) (by decide +kernel) (by omega), zcc_le zi_0 p1, zle_c (k := 13) (by decide +kernel) (by omega), zcc_le zi_1 p2, zle_c (k := 14) (by decide +kernel) (by omega), zle_c (k := 14) (by decide +kernel) (by omega)⟩
theorem zHv_skip {n a b : Int32} {P Q : Nat → Int32} (h : zHv n a b P Q) (hab : ¬ b ≤ a) : zHv n (a + 1) b P Q := by
  obtain ⟨h1, h2, h3, h4, h6, h7⟩ := h
  have k : a.toInt < b.toInt := by
    have : ¬ b.toInt ≤ a.toInt := fun q => hab (Int32.le_iff_toInt_le.mpr q)
    omega
  have ea := zo_add (x := a) (y := 1) (z := a + 1) rfl rfl zi_1 (by omega)
  obtain ⟨p1, p2, p3⟩ := h6 a.toInt.toNat (by omega) (by omega)
  rw [show (b.toInt - a.toInt).toNat = (b.toInt - (a + 1).toInt).toNat + 1 by omega] at h7
  rw [show zSg Q a.toInt.toNat ((b.toInt - (a + 1).toInt).toNat + 1) = (2 * (Q a.toInt.toNat).toInt - 1) + zSg Q (a.toInt.toNat + 1) (b.toInt - (a + 1).toInt).toNat from rfl, show a.toInt.toNat + 1 = (a + 1).toInt.toNat by omega] at h7
  exact ⟨by omega, by omega, h3, h4, fun j q1 q2 => h6 j (by omega) q2, by omega⟩
theorem zHv_split {n a b x y : Int32} {P Q : Nat → Int32} (h : zHv n a b P Q) (hab : ¬ b ≤ a) (hQ : 2 ≤ Q a.toNatClampNeg) (hx : x = P a.toNatClampNeg + Q a.toNatClampNeg / 2) (hy : y = Q a.toNatClampNeg - Q a.toNatClampNeg / 2) : 0 ≤ b ∧ b ≤ 25 ∧ zHv n (a + 1) (b + 2) (upd (upd P b.toNatClampNeg (P a.toNatClampNeg)) (b + 1).toNatClampNeg x) (upd (upd Q b.toNatClampNeg (Q a.toNatClampNeg / 2)) (b + 1).toNatClampNeg y) := by
  obtain ⟨h1, h2, h3, h4, h6, h7⟩ := h
  have k : a.toInt < b.toInt := by
    have : ¬ b.toInt ≤ a.toInt := fun q => hab (Int32.le_iff_toInt_le.mpr q)
    omega
  have hQ' := Int32.le_iff_toInt_le.mp hQ
  rw [zi_2] at hQ'
  have na : a.toNatClampNeg = a.toInt.toNat := rfl
  rw [na] at hx hy hQ' ⊢
  obtain ⟨p1, p2, p3⟩ := h6 a.toInt.toNat (by omega) (by omega)
  have ea := zo_add (x := a) (y := 1) (z := a + 1) rfl rfl zi_1 (by omega)
  have eb := zo_add (x := b) (y := 2) (z := b + 2) rfl rfl zi_2 (by omega)
  have eb1 := zo_add (x := b) (y := 1) (z := b + 1) rfl rfl zi_1 (by omega)
  have eh := zo_idiv (x := Q a.toInt.toNat) (y := 2) rfl rfl zi_2 (by omega)
  have ex := zo_add (x := P a.toInt.toNat) (y := Q a.toInt.toNat / 2) hx rfl eh (by omega)
  have ey := zo_sub (x := Q a.toInt.toNat) (y := Q a.toInt.toNat / 2) hy rfl eh (by omega)
  rw [show (b.toInt - a.toInt).toNat = (b.toInt - a.toInt).toNat - 1 + 1 by omega] at h7
  rw [show zSg Q a.toInt.toNat ((b.toInt - a.toInt).toNat - 1 + 1) = (2 * (Q a.toInt.toNat).toInt - 1) + zSg Q (a.toInt.toNat + 1) ((b.toInt - a.toInt).toNat - 1) from rfl] at h7
  have hge := zSg_ge Q ((b.toInt - a.toInt).toNat - 1) (a.toInt.toNat + 1) (fun j q1 q2 => (h6 j (by omega) (by omega)).2.1)
  have hb25 : b.toInt ≤ 25 := by omega
  have nb : b.toNatClampNeg = b.toInt.toNat := rfl
  have nb1 : (b + 1).toNatClampNeg = b.toInt.toNat + 1 := show (b + 1).toInt.toNat = _ by omega
  rw [nb, nb1]
  have Q1 : ∀ j : Nat, j < b.toInt.toNat → upd (upd Q b.toInt.toNat (Q a.toInt.toNat / 2)) (b.toInt.toNat + 1) y j = Q j := fun j q => by
    rw [zu_at, if_neg (by omega), zu_at, if_neg (by omega)]
  have Q2 : upd (upd Q b.toInt.toNat (Q a.toInt.toNat / 2)) (b.toInt.toNat + 1) y b.toInt.toNat = Q a.toInt.toNat / 2 := by
    rw [zu_at, if_neg (by omega), zu_at, if_pos rfl]
  have Q3 : upd (upd Q b.toInt.toNat (Q a.toInt.toNat / 2)) (b.toInt.toNat + 1) y (b.toInt.toNat + 1) = y := by
    rw [zu_at, if_pos rfl]
  have P1 : ∀ j : Nat, j < b.toInt.toNat → upd (upd P b.toInt.toNat (P a.toInt.toNat)) (b.toInt.toNat + 1) x j = P j := fun j q => by
    rw [zu_at, if_neg (by omega), zu_at, if_neg (by omega)]
  have P2 : upd (upd P b.toInt.toNat (P a.toInt.toNat)) (b.toInt.toNat + 1) x b.toInt.toNat = P a.toInt.toNat := by
    rw [zu_at, if_neg (by omega), zu_at, if_pos rfl]
  have P3 : upd (upd P b.toInt.toNat (P a.toInt.toNat)) (b.toInt.toNat + 1) x (b.toInt.toNat + 1) = x := by
    rw [zu_at, if_pos rfl]
  generalize upd (upd Q b.toInt.toNat (Q a.toInt.toNat / 2)) (b.toInt.toNat + 1) y = Q' at Q1 Q2 Q3 ⊢
  generalize upd (upd P b.toInt.toNat (P a.toInt.toNat)) (b.toInt.toNat + 1) x = P' at P1 P2 P3 ⊢
  refine ⟨zcc_le zi_0 (by omega), zle_c (k := 25) (by decide +kernel) hb25, by omega, by omega, by omega, h4, fun j q1 q2 => ?_, ?_⟩
  · rcases (show j < b.toInt.toNat ∨ j = b.toInt.toNat ∨ j = b.toInt.toNat + 1 by omega) with q | q | q
    · rw [P1 j q, Q1 j q]
      exact h6 j (by omega) (by omega)
    · rw [q, P2, Q2]
      omega
    · rw [q, P3, Q3]
      omega
  · rw [show ((b + 2).toInt - (a + 1).toInt).toNat = (b.toInt - a.toInt).toNat - 1 + 1 + 1 by omega, zSg_snoc, zSg_snoc, show (a + 1).toInt.toNat = a.toInt.toNat + 1 by omega]
    rw [show a.toInt.toNat + 1 + ((b.toInt - a.toInt).toNat - 1) = b.toInt.toNat by omega, show a.toInt.toNat + 1 + ((b.toInt - a.toInt).toNat - 1 + 1) = b.toInt.toNat + 1 by omega, Q2, Q3]
    rw [zSg_congr Q Q' ((b.toInt - a.toInt).toNat - 1) (a.toInt.toNat + 1) (fun j q1 q2 => Q1 j (by omega))]
    omega
theorem zHv_one {n : Int32} {P Q : Nat → Int32} (h1 : 1 ≤ n) (h2 : n ≤ 14) : zHv n 0 1 (upd P (0 : Int32).toNatClampNeg 0) (upd Q (0 : Int32).toNatClampNeg n) := by
  have k1 := Int32.le_iff_toInt_le.mp h1
  have k2 := Int32.le_iff_toInt_le.mp h2
  rw [zi_1] at k1
  rw [show (14 : Int32).toInt = 14 by decide +kernel] at k2
  have e0 : (0 : Int32).toNatClampNeg = 0 := by decide +kernel
  rw [e0]
  refine ⟨by rw [zi_0]; omega, by rw [zi_0, zi_1]; omega, by rw [zi_1]; omega, k2, fun j q1 q2 => ?_, ?_⟩
  · rw [zi_1] at q2
    have : j = 0 := by omega
    subst this
    rw [zu_at, if_pos rfl, zu_at, if_pos rfl, zi_0]
    omega
  · rw [zi_0, zi_1, show ((0 : Int)).toNat = 0 from rfl, show ((1 : Int) - 0).toNat = 0 + 1 from rfl, zSg_snoc]
    simp only [zSg]
    rw [show (0 : Nat) + 0 = 0 from rfl, zu_at, if_pos rfl]
    omega
theorem zHv_none {n : Int32} {P Q : Nat → Int32} (h2 : n ≤ 14) : zHv n 0 0 P Q := by
  have k2 := Int32.le_iff_toInt_le.mp h2
  rw [show (14 : Int32).toInt = 14 by decide +kernel] at k2
  refine ⟨by rw [zi_0]; omega, by rw [zi_0]; omega, by rw [zi_0]; omega, k2, fun j q1 q2 => ?_, ?_⟩
  · rw [zi_0] at q2
    omega
  · rw [zi_0]
    simp [zSg]
theorem zand31 (x : Int32) : 0 ≤ x &&& 31 ∧ x &&& 31 ≤ 31 := by
  have h := zo_and31 (x := x) (z := x &&& 31) rfl
  refine ⟨Int32.le_iff_toInt_le.mpr ?_, Int32.le_iff_toInt_le.mpr ?_⟩
  · rw [zi_0]; exact h.1
  · rw [show (31 : Int32).toInt = 31 by decide +kernel]; exact h.2
theorem zand255 (x : Int32) : 0 ≤ x &&& 255 ∧ x &&& 255 ≤ 255 := by
  have h := zo_and255 (x := x) (z := x &&& 255) rfl
  refine ⟨Int32.le_iff_toInt_le.mpr ?_, Int32.le_iff_toInt_le.mpr ?_⟩
  · rw [zi_0]; exact h.1
  · rw [show (255 : Int32).toInt = 255 by decide +kernel]; exact h.2
theorem zhalf2 (x : Int32) (h : 0 ≤ x) (h2 : x ≤ 100000000) : 0 ≤ x / 2 ∧ x / 2 ≤ x ∧ x / 2 + x / 2 ≤ x ∧ x ≤ x / 2 + x / 2 + 1 := by
  obtain ⟨a, b, c⟩ := zhalf x h
  refine ⟨a, b, c, ?_⟩
  have h1 := Int32.le_iff_toInt_le.mp h
  rw [zi_0] at h1
  have h3 := Int32.le_iff_toInt_le.mp h2
  rw [show (100000000 : Int32).toInt = 100000000 by decide +kernel] at h3
  have k2 : (2 : Int32).toInt = 2 := by decide +kernel
  have e1 := zo_idiv (x := x) (y := 2) (z := x / 2) rfl rfl k2 ⟨h1, by omega⟩
  have e2 := zo_add (x := x / 2) (y := x / 2) rfl e1 e1 (by omega)
  have e3 := zo_add (x := x / 2 + x / 2) (y := 1) rfl e2 zi_1' (by omega)
  apply Int32.le_iff_toInt_le.mpr
  rw [e3]
  omega
/-! a loop that halves -/
noncomputable def zbl (n : Nat) : Nat := if n = 0 then 0 else Nat.log2 n + 1
theorem zbl_lt {a b : Nat} (h : 2 * a ≤ b) (hb : 1 ≤ b) : zbl a < zbl b := by
  unfold zbl
  rw [if_neg (show ¬ b = 0 by omega)]
  by_cases c : a = 0
  · rw [if_pos c]; omega
  · rw [if_neg c]
    have h1 := Nat.log2_self_le c
    have h2 : 2 ^ (a.log2 + 1) ≤ b := by
      rw [Nat.pow_succ]
      omega
    have h3 := (Nat.le_log2 (show b ≠ 0 by omega)).mpr h2
    omega
theorem zbl_le {n : Nat} (h : n ≤ 10000000) : zbl n < 100000 := by
  unfold zbl
  split
  · omega
  · have := (Nat.log2_lt (k := 24) (by assumption)).mpr (show n < 2 ^ 24 by omega)
    omega
theorem zw_zlH {σ ρ : Type} {B : σ → (σ → Option ρ) → Option ρ} {s : σ} {P : ρ → Prop} (I : σ → Prop) (m : σ → Int32) (hI : I s) (hm : ∀ s, I s → 0 ≤ m s ∧ m s ≤ 10000000) (hB : ∀ (s : σ) (back : σ → Option ρ), I s → (∀ t, I t → 1 ≤ m s → m t + m t ≤ m s → zw (back t) P) → zw (B s back) P) : zw (zl B 100000 s) P := by
  have key : ∀ s, I s → 0 ≤ (m s).toInt ∧ (m s).toInt ≤ 10000000 := by
    intro s hs
    have h := hm s hs
    have h1 := Int32.le_iff_toInt_le.mp h.1
    have h2 := Int32.le_iff_toInt_le.mp h.2
    rw [zi_0] at h1
    rw [show (10000000 : Int32).toInt = 10000000 by decide +kernel] at h2
    exact ⟨h1, h2⟩
  refine zw_zl I (fun s => zbl (m s).toInt.toNat) hI ?_ ?_
  · have := key s hI
    exact zbl_le (by omega)
  · intro s back hs hb
    refine hB s back hs (fun t ht h1 h2 => hb t ht ?_)
    have k1 := key s hs
    have k2 := key t ht
    have a1 := Int32.le_iff_toInt_le.mp h1
    have a2 := Int32.le_iff_toInt_le.mp h2
    rw [zi_1'] at a1
    rw [zo_add (x := m t) (y := m t) (z := m t + m t) rfl rfl rfl (by omega)] at a2
    exact zbl_lt (by omega) (by omega)
theorem zdiv25 (x : Int32) (h : 0 ≤ x) (h2 : x < 350) : 0 ≤ x / 25 ∧ x / 25 ≤ 13 ∧ 0 ≤ x - x / 25 * 25 ∧ x - x / 25 * 25 ≤ 24 := by
  have h1 := Int32.le_iff_toInt_le.mp h
  rw [zi_0] at h1
  have h3 := Int32.lt_iff_toInt_lt.mp h2
  rw [show (350 : Int32).toInt = 350 by decide +kernel] at h3
  have k2 : (25 : Int32).toInt = 25 := by decide +kernel
  have e1 := zo_idiv (x := x) (y := 25) (z := x / 25) rfl rfl k2 ⟨h1, by omega⟩
  have e2 := zo_mul (x := x / 25) (y := 25) rfl e1 k2 (by omega)
  have e3 := zo_sub (x := x) (y := x / 25 * 25) rfl rfl e2 (by omega)
  refine ⟨Int32.le_iff_toInt_le.mpr ?_, Int32.le_iff_toInt_le.mpr ?_, Int32.le_iff_toInt_le.mpr ?_, Int32.le_iff_toInt_le.mpr ?_⟩
  · rw [zi_0, e1]; omega
  · rw [e1, show (13 : Int32).toInt = 13 by decide +kernel]; omega
  · rw [zi_0, e3]; omega
  · rw [e3, show (24 : Int32).toInt = 24 by decide +kernel]; omega
theorem zinj' (x y : Int32) (hx : 0 ≤ x) (hy : 0 ≤ y) : (x.toNatClampNeg = y.toNatClampNeg) = (x = y) := propext ⟨zinj x y hx hy, fun h => by rw [h]⟩
/-! rows with one place changed -/
theorem zU1 {f : Nat → Int32} {k : Nat} {x : Int32} (h : 1 ≤ x) (i : Nat) : upd f k x i = f i ∨ 1 ≤ upd f k x i := by
  rw [zu_at]
  split
  · exact Or.inr h
  · exact Or.inl rfl
theorem zU1m {f : Nat → Int32} {k : Nat} (i : Nat) : upd f k (-1) i = f i ∨ upd f k (-1) i = (-1) := by
  rw [zu_at]
  split
  · exact Or.inr rfl
  · exact Or.inl rfl
theorem zU2 {F S : Nat → Int32} {v o y : Int32} (hF : 0 ≤ F v.toNatClampNeg ∧ F v.toNatClampNeg ≤ 4) (ho : o = 4 + F v.toNatClampNeg) (hy : 1 ≤ y) (x : Int32) (h0 : 0 ≤ x) (h1 : x < upd F v.toNatClampNeg (F v.toNatClampNeg + 1) v.toNatClampNeg) : x < F v.toNatClampNeg ∨ 1 ≤ upd S o.toNatClampNeg y (4 + x).toNatClampNeg := by
  rw [zu_at, if_pos rfl] at h1
  by_cases c : x < F v.toNatClampNeg
  · exact Or.inl c
  · have e : x = F v.toNatClampNeg := by lia
    rw [e, ← ho, zu_at, if_pos rfl]
    exact Or.inr hy
theorem zU3 {S : Nat → Int32} {o y : Int32} (ho : 4 ≤ o) (x : Int32) (h0 : 0 ≤ x) (h1 : x < 4) : upd S o.toNatClampNeg y x.toNatClampNeg = S x.toNatClampNeg := by
  rw [zu_at, if_neg]
  intro q
  have := zinj x o h0 (by lia) q
  lia
theorem zU4 {F : Nat → Int32} {v z : Int32} (hv : v = 1) : upd F v.toNatClampNeg z (0 : Int32).toNatClampNeg = F (0 : Int32).toNatClampNeg := by
  rw [hv, zu_at, if_neg (by decide +kernel)]
theorem zU5 {F G : Nat → Int32} {v : Int32} (hF : 0 ≤ F v.toNatClampNeg ∧ F v.toNatClampNeg ≤ 14) (hG : G (14 + F v.toNatClampNeg).toNatClampNeg = (-1)) (k : Int32) (h0 : 0 ≤ k) (h1 : k < upd F v.toNatClampNeg (F v.toNatClampNeg + 1) v.toNatClampNeg) : k < F v.toNatClampNeg ∨ G (14 + k).toNatClampNeg = (-1) := by
  rw [zu_at, if_pos rfl] at h1
  by_cases c : k < F v.toNatClampNeg
  · exact Or.inl c
  · have e : k = F v.toNatClampNeg := by lia
    rw [e]
    exact Or.inr hG
theorem zU6 {f : Nat → Int32} {o a x : Int32} (h : o = a) : upd f o.toNatClampNeg x a.toNatClampNeg = x := by
  rw [h, zu_at, if_pos rfl]
theorem zU7 {f : Nat → Int32} {k : Nat} {x a b : Int32} (hf : ∀ i : Nat, a ≤ f i ∧ f i ≤ b) (hx : a ≤ x ∧ x ≤ b) (i : Nat) : a ≤ upd f k x i ∧ upd f k x i ≤ b := by
  rw [zu_at]
  split
  · exact hx
  · exact hf i
theorem zU8 {f : Nat → Int32} {k : Nat} {x m : Int32} (h : 0 ≤ x ∧ x < m) (i : Nat) : upd f k x i = f i ∨ 0 ≤ upd f k x i ∧ upd f k x i < m := by
  rw [zu_at]
  split
  · exact Or.inr h
  · exact Or.inl rfl
theorem zO1 {P Q R : Nat → Prop} (h : ∀ i, P i ∨ Q i) (i : Nat) : P i ∨ Q i ∨ R i := (h i).elim Or.inl (fun q => Or.inr (Or.inl q))
theorem zO2 {P Q R : Nat → Prop} (h : ∀ i, P i ∨ R i) (i : Nat) : P i ∨ Q i ∨ R i := (h i).elim Or.inl (fun q => Or.inr (Or.inr q))
theorem zmin13 {a b : Int32} {r : Int64} (ha : 0 ≤ a ∧ a ≤ 13) (hb : 0 ≤ b ∧ b ≤ 13) (h : (b.toInt64 ≤ r ∧ r ≤ b.toInt64 ∧ b.toInt64 ≤ a.toInt64) ∨ (a.toInt64 ≤ r ∧ r ≤ a.toInt64 ∧ a.toInt64 < b.toInt64)) : 0 ≤ r.toInt32 ∧ r.toInt32 ≤ 13 := by
  rcases h with ⟨h1, h2, _⟩ | ⟨h1, h2, _⟩
  · rw [Int64.le_antisymm h2 h1, z64_32]; exact hb
  · rw [Int64.le_antisymm h2 h1, z64_32]; exact ha
theorem z64_ge0 (x : Int32) : (0 : Int64) ≤ x.toInt64 ↔ 0 ≤ x := by
  rw [Int64.le_iff_toInt_le, z64_i, Int32.le_iff_toInt_le, zi_0]
  exact Iff.rfl
theorem z64_ltm (x y : Int32) (hy : 0 ≤ y) : x.toInt64 ≤ y.toInt64 - 1 ↔ x < y := by
  have h1 := Int32.le_iff_toInt_le.mp hy
  rw [zi_0] at h1
  have h2 := Int32.toInt_lt y
  rw [Int64.le_iff_toInt_le, Int64.toInt_sub, z64_i, z64_i, show (1 : Int64).toInt = 1 by decide +kernel, Int32.lt_iff_toInt_lt, Int.bmod_def]
  constructor
  · intro h
    split at h <;> omega
  · intro h
    split <;> omega
/-! a row copied from its second half to its first -/
theorem zC1 {S T : Nat → Int32} {d c : Int32} (hd : 0 ≤ d ∧ d ≤ 14) (hc : 0 ≤ c) (hc2 : c < d) (h1 : ∀ x : Int32, 0 ≤ x → x < c → S x.toNatClampNeg = T (d + x).toNatClampNeg) (h2 : ∀ x : Int32, d ≤ x → S x.toNatClampNeg = T x.toNatClampNeg) (x : Int32) (x0 : 0 ≤ x) (x1 : x < c + 1) : upd S c.toNatClampNeg (S (d + c).toNatClampNeg) x.toNatClampNeg = T (d + x).toNatClampNeg := by
  rw [zu_at]
  by_cases q : x = c
  · rw [if_pos (by rw [q]), h2 _ (by lia), q]
  · rw [if_neg (fun w => q (zinj x c x0 hc w)), h1 x x0 (by lia)]
theorem zC2 {S T : Nat → Int32} {d c : Int32} (hd : 0 ≤ d ∧ d ≤ 14) (hc : 0 ≤ c) (hc2 : c < d) (h2 : ∀ x : Int32, d ≤ x → S x.toNatClampNeg = T x.toNatClampNeg) (x : Int32) (x0 : d ≤ x) : upd S c.toNatClampNeg (S (d + c).toNatClampNeg) x.toNatClampNeg = T x.toNatClampNeg := by
  rw [zu_at, if_neg (fun w => by have := zinj x c (by lia) hc w; lia)]
  exact h2 x x0
theorem zC3 {S T : Nat → Int32} {c : Int32} (hc : 4 ≤ c) (h1 : ∀ x : Int32, 0 ≤ x → x < c → S x.toNatClampNeg = T (4 + x).toNatClampNeg) (h2 : ∀ x : Int32, 4 ≤ x → S x.toNatClampNeg = T x.toNatClampNeg) (x : Int32) (x0 : 0 ≤ x) (x1 : x < 4) : S x.toNatClampNeg = T (4 + x).toNatClampNeg ∧ S (4 + x).toNatClampNeg = T (4 + x).toNatClampNeg := ⟨h1 x x0 (by lia), h2 _ (by lia)⟩
theorem zC4 {S T : Nat → Int32} {c : Int32} (hc : 14 ≤ c) (h1 : ∀ x : Int32, 0 ≤ x → x < c → S x.toNatClampNeg = T (14 + x).toNatClampNeg) (x : Int32) (x0 : 0 ≤ x) (x1 : x < 14) : S x.toNatClampNeg = T (14 + x).toNatClampNeg := h1 x x0 (by lia)
theorem zTk3 {A B N X H H0 SF SS SN SX : Nat → Int32} (hA : A (0 : Int32).toNatClampNeg = SF (1 : Int32).toNatClampNeg) (hSF : ∀ i : Nat, 0 ≤ SF i ∧ SF i ≤ 4) (hB : ∀ x : Int32, 0 ≤ x → x < 4 → B x.toNatClampNeg = SS (4 + x).toNatClampNeg ∧ B (4 + x).toNatClampNeg = SS (4 + x).toNatClampNeg) (hS : ∀ x : Int32, 0 ≤ x → x < SF (1 : Int32).toNatClampNeg → 1 ≤ SS (4 + x).toNatClampNeg) (hN : N (0 : Int32).toNatClampNeg = SN (1 : Int32).toNatClampNeg) (hSN : ∀ i : Nat, 0 ≤ SN i ∧ SN i ≤ 14)
    (hX : ∀ k : Int32, 0 ≤ k → k < 14 → X k.toNatClampNeg = SX (14 + k).toNatClampNeg) (hSX : ∀ k : Int32, 0 ≤ k → k < SN (1 : Int32).toNatClampNeg → SX (14 + k).toNatClampNeg = (-1) ∨ 0 ≤ SX (14 + k).toNatClampNeg ∧ 1 ≤ SS (4 + SX (14 + k).toNatClampNeg).toNatClampNeg) (hSXr : ∀ i : Nat, (-1) ≤ SX i ∧ SX i ≤ 3) (hH : ∀ i : Nat, H i = H0 i ∨ H i = 0 ∨ ∃ k : Int32, 0 ≤ k ∧ k < N (0 : Int32).toNatClampNeg ∧ ¬ X k.toNatClampNeg = (-1) ∧ H i = X k.toNatClampNeg) (hA1 : 1 ≤ SF (1 : Int32).toNatClampNeg) :
    1 ≤ A (0 : Int32).toNatClampNeg ∧ (∀ x : Int32, 0 ≤ x → x < A (0 : Int32).toNatClampNeg → 1 ≤ B x.toNatClampNeg) ∧ (∀ i : Nat, H i = H0 i ∨ 1 ≤ B (H i).toNatClampNeg) := by
  have h4 := hSF (1 : Int32).toNatClampNeg
  have h14 := hSN (1 : Int32).toNatClampNeg
  have hx : ∀ x : Int32, 0 ≤ x → x < A (0 : Int32).toNatClampNeg → 1 ≤ B x.toNatClampNeg := by
    intro x x0 x1
    rw [hA] at x1
    rw [(hB x x0 (by lia)).1]
    exact hS x x0 x1
  refine ⟨by rw [hA]; exact hA1, hx, fun i => ?_⟩
  rcases hH i with q | q | ⟨k, k0, k1, k2, k3⟩
  · exact Or.inl q
  · rw [q]
    exact Or.inr (hx 0 (by decide) (by rw [hA]; lia))
  · rw [hN] at k1
    have e := hX k k0 (by lia)
    rw [e] at k2 k3
    rw [k3]
    have r := hSXr (14 + k).toNatClampNeg
    rcases hSX k k0 k1 with w | ⟨w0, w1⟩
    · exact absurd w k2
    · rw [(hB _ w0 (by lia)).1]
      exact Or.inr w1
theorem z64_r (x : Int32) (h : 1 ≤ x) : 1 ≤ x.toInt64 ∧ x.toInt64 ≤ 2147483647 := by
  have h1 := Int32.le_iff_toInt_le.mp h
  rw [zi_1'] at h1
  have h2 := Int32.toInt_lt x
  refine ⟨Int64.le_iff_toInt_le.mpr ?_, Int64.le_iff_toInt_le.mpr ?_⟩
  · rw [z64_i, show (1 : Int64).toInt = 1 by decide +kernel]; exact h1
  · rw [z64_i, show (2147483647 : Int64).toInt = 2147483647 by decide +kernel]; omega
theorem zdivm (x y : Int32) (h0 : 0 ≤ x) (h1 : x ≤ 1023) (h2 : 1 ≤ y) (h3 : y ≤ 4) : 0 ≤ x / y ∧ x / y ≤ x ∧ 0 ≤ x - x / y * y ∧ x - x / y * y < y := by
  have a0 := Int32.le_iff_toInt_le.mp h0
  have a1 := Int32.le_iff_toInt_le.mp h1
  have a2 := Int32.le_iff_toInt_le.mp h2
  have a3 := Int32.le_iff_toInt_le.mp h3
  rw [zi_0] at a0
  rw [show (1023 : Int32).toInt = 1023 by decide +kernel] at a1
  rw [zi_1'] at a2
  rw [show (4 : Int32).toInt = 4 by decide +kernel] at a3
  have e1 := zo_idiv (x := x) (y := y) (z := x / y) rfl rfl rfl ⟨a0, by omega⟩
  have d1 : 0 ≤ x.toInt / y.toInt := Int.ediv_nonneg a0 (by omega)
  have d2 : x.toInt / y.toInt * y.toInt ≤ x.toInt := Int.ediv_mul_le _ (by omega)
  have d3 : x.toInt < x.toInt / y.toInt * y.toInt + y.toInt := by
    have := Int.lt_ediv_add_one_mul_self x.toInt (show 0 < y.toInt by omega)
    rw [Int.add_mul, Int.one_mul] at this
    exact this
  have d4 : x.toInt / y.toInt ≤ x.toInt := Int.ediv_le_self _ a0
  have d5 : 0 ≤ x.toInt / y.toInt * y.toInt := Int.mul_nonneg d1 (by omega)
  have e2 := zo_mul (x := x / y) (y := y) (z := x / y * y) rfl e1 rfl (by omega)
  have e3 := zo_sub (x := x) (y := x / y * y) (z := x - x / y * y) rfl rfl e2 (by omega)
  refine ⟨Int32.le_iff_toInt_le.mpr ?_, Int32.le_iff_toInt_le.mpr ?_, Int32.le_iff_toInt_le.mpr ?_, Int32.lt_iff_toInt_lt.mpr ?_⟩
  · rw [zi_0, e1]; exact d1
  · rw [e1]; exact d4
  · rw [zi_0, e3]; omega
  · rw [e3]; omega
theorem zStR {R G St : Nat → Int32} {m : Int32} (h1 : ∀ x : Int32, 0 ≤ x → x < m → 1 ≤ St x.toNatClampNeg) (h2 : ∀ i : Nat, 1 ≤ St (G i).toNatClampNeg) (h : ∀ i : Nat, R i = G i ∨ 0 ≤ R i ∧ R i < m) (i : Nat) : 1 ≤ St (R i).toNatClampNeg := by
  rcases h i with q | q
  · rw [q]; exact h2 i
  · exact h1 _ q.1 q.2
set_option maxHeartbeats 4000000 in
set_option maxRecDepth 100000 in
theorem sf_J9_floorDiv_f86c9 (j0 : Int64) (j1 : Int64) (hx_0 : ¬ j1 = 0) : zw (fn_J9_floorDiv_f86c9 j0 j1) (fun r => True) := by
  unfold fn_J9_floorDiv_f86c9
  refine zw_zd (by (try dsimp only); first | lia | grind [zu_at, zu_atL, zvn]) ?_
  refine zw_ifc (lg_cmp_ge _ _) (fun c1 => ?_) (fun c1 => ?_)
  · refine zw_some ?_
    first | exact True.intro | ((try dsimp only); (repeat' apply And.intro) <;> first | with_reducible assumption | first | lia | grind [zu_at, zu_atL, zvn])
  refine zw_ifc (lg_cmp_eq _ _) (fun c2 => ?_) (fun c2 => ?_)
  · refine zw_some ?_
    first | exact True.intro | ((try dsimp only); (repeat' apply And.intro) <;> first | with_reducible assumption | first | lia | grind [zu_at, zu_atL, zvn])
  refine zw_some ?_
  first | exact True.intro | ((try dsimp only); (repeat' apply And.intro) <;> first | with_reducible assumption | first | lia | grind [zu_at, zu_atL, zvn])
set_option maxHeartbeats 4000000 in
set_option maxRecDepth 100000 in
theorem sf_X0_forget  : zw (fn_X0_forget) (fun r => (-1) ≤ r.1 ∧ (-1) ≤ r.2 ∧ r.1 ≤ (-1) ∧ r.2 ≤ (-1)) := by
  unfold fn_X0_forget
  refine zw_some ?_
  first | exact True.intro | ((try dsimp only); (repeat' apply And.intro) <;> first | with_reducible assumption | first | lia | grind [zu_at, zu_atL, zvn])
set_option maxHeartbeats 4000000 in
set_option maxRecDepth 100000 in
theorem sf_X2_fillFree (p2 : Int32) (v0_0 : Int32) (f1 : Nat → Int32) (f2 : Nat → Int32) (h_v0_0 : 0 ≤ v0_0 ∧ v0_0 ≤ 14) : zw (fn_X2_fillFree p2 v0_0 f1 f2) (fun r => True) := by
  unfold fn_X2_fillFree
  refine zw_zl32 (fun s_1 => 0 ≤ s_1.1 ∧ s_1.1 ≤ 14 ∧ s_1.1 ≤ v0_0) (fun s_1 => 14 - s_1.1) (by (try dsimp only); (repeat' apply And.intro) <;> first | with_reducible assumption | first | lia | grind [zu_at, zu_atL, zvn]) (by (try dsimp only); first | lia | grind [zu_at, zu_atL, zvn]) (fun s_1 back_1 Hback_1 hback_1 => ?_)
  obtain ⟨s_1_0, s_1_1⟩ := s_1
  try dsimp only at Hback_1 hback_1
  obtain ⟨Hback_1_0, Hback_1_1, Hback_1_2⟩ := Hback_1
  refine zw_if (fun c1 => ?_) (fun c1 => ?_)
  · refine zw_some ?_
    first | exact True.intro | ((try dsimp only); (repeat' apply And.intro) <;> first | with_reducible assumption | ((try clear hback_1); first | lia | grind [zu_at, zu_atL, zvn]))
  refine zw_if (fun c2 => ?_) (fun c2 => ?_)
  · refine zw_some ?_
    first | exact True.intro | ((try dsimp only); (repeat' apply And.intro) <;> first | with_reducible assumption | ((try clear hback_1); first | lia | grind [zu_at, zu_atL, zvn]))
  refine zw_zg32 14 (by decide) (by (try dsimp only); ((try clear hback_1); first | lia | grind [zu_at, zu_atL, zvn])) ?_
  refine zw_if (fun c3 => ?_) (fun c3 => ?_)
  · exact hback_1 _ (by (try dsimp only); (repeat' apply And.intro) <;> first | with_reducible assumption | ((try clear hback_1); first | lia | grind [zu_at, zu_atL, zvn])) (by (try dsimp only); ((try clear hback_1); first | lia | grind [zu_at, zu_atL, zvn])) (by (try dsimp only); ((try clear hback_1); first | lia | grind [zu_at, zu_atL, zvn]))
  exact hback_1 _ (by (try dsimp only); (repeat' apply And.intro) <;> first | with_reducible assumption | ((try clear hback_1); first | lia | grind [zu_at, zu_atL, zvn])) (by (try dsimp only); ((try clear hback_1); first | lia | grind [zu_at, zu_atL, zvn])) (by (try dsimp only); ((try clear hback_1); first | lia | grind [zu_at, zu_atL, zvn]))
set_option maxHeartbeats 4000000 in
set_option maxRecDepth 100000 in
theorem sf_X9_hasFormat (p1 : Int32) (v0_0 : Int32) (h_v0_0 : 0 ≤ v0_0 ∧ v0_0 ≤ 4) : zw (fn_X9_hasFormat p1 v0_0) (fun r => 0 ≤ r ∧ r ≤ 1 ∧ r ≤ v0_0 ∧ (¬ r = 0 → 0 ≤ p1 ∧ 1 ≤ r ∧ p1 ≤ 3 ∧ p1 < v0_0) ∧ (r = 1 → 0 ≤ p1 ∧ p1 ≤ 3 ∧ 1 ≤ v0_0 ∧ p1 < v0_0 ∧ p1 ≤ r + 2 ∧ v0_0 ≤ r + 3) ∧ (¬ r = 1 → r ≤ 0)) := by
  unfold fn_X9_hasFormat
  refine zw_if (fun c1 => ?_) (fun c1 => ?_)
  · refine zw_some ?_
    first | exact True.intro | ((try dsimp only); first | with_reducible assumption | grind [zu_at, zu_atL, zvn] | ((repeat' apply And.intro) <;> first | with_reducible assumption | first | lia | grind [zu_at, zu_atL, zvn]))
  refine zw_if (fun c2 => ?_) (fun c2 => ?_)
  · refine zw_some ?_
    first | exact True.intro | ((try dsimp only); first | with_reducible assumption | grind [zu_at, zu_atL, zvn] | ((repeat' apply And.intro) <;> first | with_reducible assumption | first | lia | grind [zu_at, zu_atL, zvn]))
  refine zw_some ?_
  first | exact True.intro | ((try dsimp only); first | with_reducible assumption | grind [zu_at, zu_atL, zvn] | ((repeat' apply And.intro) <;> first | with_reducible assumption | first | lia | grind [zu_at, zu_atL, zvn]))
set_option maxHeartbeats 4000000 in
set_option maxRecDepth 100000 in
theorem sf_X0_readLong (p1 : Int32) (f0 : Nat → Int32) (h_p1 : 0 ≤ p1 ∧ p1 ≤ 1192) : zw (fn_X0_readLong p1 f0) (fun r => True) := by
  unfold fn_X0_readLong
  refine zw_zl32 (fun s_1 => 0 ≤ s_1.2 ∧ s_1.2 ≤ 1200 ∧ p1 ≤ s_1.2) (fun s_1 => 1200 - s_1.2) (by (try dsimp only); (repeat' apply And.intro) <;> first | with_reducible assumption | first | lia | grind [zu_at, zu_atL, zvn]) (by (try dsimp only); first | lia | grind [zu_at, zu_atL, zvn]) (fun s_1 back_1 Hback_1 hback_1 => ?_)
  obtain ⟨s_1_0, s_1_1⟩ := s_1
  try dsimp only at Hback_1 hback_1
  obtain ⟨Hback_1_0, Hback_1_1, Hback_1_2⟩ := Hback_1
  refine zw_if (fun c1 => ?_) (fun c1 => ?_)
  · refine zw_zn (fun x_3 ex_3 => ?_)
    refine zw_zn (fun x_4 ex_4 => ?_)
    refine zw_some ?_
    first | exact True.intro | ((try dsimp only); (repeat' apply And.intro) <;> first | with_reducible assumption | ((try clear hback_1); first | lia | grind [zu_at, zu_atL, zvn]))
  refine zw_if (fun c2 => ?_) (fun c2 => ?_)
  · refine zw_zn (fun x_6 ex_6 => ?_)
    refine zw_zn (fun x_7 ex_7 => ?_)
    refine zw_some ?_
    first | exact True.intro | ((try dsimp only); (repeat' apply And.intro) <;> first | with_reducible assumption | ((try clear hback_1); first | lia | grind [zu_at, zu_atL, zvn]))
  refine zw_zg32 1200 (by decide) (by (try dsimp only); ((try clear hback_1); first | lia | grind [zu_at, zu_atL, zvn])) ?_
  refine zw_zn (fun x_9 ex_9 => ?_)
  exact hback_1 _ (by (try dsimp only); (repeat' apply And.intro) <;> first | with_reducible assumption | ((try clear hback_1); first | lia | grind [zu_at, zu_atL, zvn])) (by (try dsimp only); ((try clear hback_1); first | lia | grind [zu_at, zu_atL, zvn])) (by (try dsimp only); ((try clear hback_1); first | lia | grind [zu_at, zu_atL, zvn]))
set_option maxHeartbeats 4000000 in
set_option maxRecDepth 100000 in
theorem sf_X4_madeOf (p1 : Int32) (p2 : Int32) (v0_0 : Int32) (f1 : Nat → Int32) (h_v0_0 : 0 ≤ v0_0 ∧ v0_0 ≤ 14) : zw (fn_X4_madeOf p1 p2 v0_0 f1) (fun r => (¬ r = (-1) → 0 ≤ p1 ∧ 0 ≤ p2 ∧ p1 ≤ 13 ∧ p2 ≤ 1 ∧ 1 ≤ v0_0 ∧ p1 < v0_0)) := by
  unfold fn_X4_madeOf
  refine zw_if (fun c1 => ?_) (fun c1 => ?_)
  · refine zw_some ?_
    first | exact True.intro | ((try dsimp only); (repeat' apply And.intro) <;> first | with_reducible assumption | first | lia | grind [zu_at, zu_atL, zvn])
  refine zw_if (fun c2 => ?_) (fun c2 => ?_)
  · refine zw_some ?_
    first | exact True.intro | ((try dsimp only); (repeat' apply And.intro) <;> first | with_reducible assumption | first | lia | grind [zu_at, zu_atL, zvn])
  refine zw_if (fun c3 => ?_) (fun c3 => ?_)
  · refine zw_some ?_
    first | exact True.intro | ((try dsimp only); (repeat' apply And.intro) <;> first | with_reducible assumption | first | lia | grind [zu_at, zu_atL, zvn])
  refine zw_if (fun c4 => ?_) (fun c4 => ?_)
  · refine zw_some ?_
    first | exact True.intro | ((try dsimp only); (repeat' apply And.intro) <;> first | with_reducible assumption | first | lia | grind [zu_at, zu_atL, zvn])
  refine zw_zg32 28 (by decide) (by (try dsimp only); first | lia | grind [zu_at, zu_atL, zvn]) ?_
  refine zw_some ?_
  first | exact True.intro | ((try dsimp only); (repeat' apply And.intro) <;> first | with_reducible assumption | first | lia | grind [zu_at, zu_atL, zvn])
set_option maxHeartbeats 4000000 in
set_option maxRecDepth 100000 in
theorem sf_X4_amountOf (p1 : Int32) (p2 : Int32) (v0_0 : Int32) (f1 : Nat → Int32) (h_v0_0 : 0 ≤ v0_0 ∧ v0_0 ≤ 14) : zw (fn_X4_amountOf p1 p2 v0_0 f1) (fun r => True) := by
  unfold fn_X4_amountOf
  refine zw_if (fun c1 => ?_) (fun c1 => ?_)
  · refine zw_some ?_
    first | exact True.intro | ((try dsimp only); (repeat' apply And.intro) <;> first | with_reducible assumption | first | lia | grind [zu_at, zu_atL, zvn])
  refine zw_if (fun c2 => ?_) (fun c2 => ?_)
  · refine zw_some ?_
    first | exact True.intro | ((try dsimp only); (repeat' apply And.intro) <;> first | with_reducible assumption | first | lia | grind [zu_at, zu_atL, zvn])
  refine zw_if (fun c3 => ?_) (fun c3 => ?_)
  · refine zw_some ?_
    first | exact True.intro | ((try dsimp only); (repeat' apply And.intro) <;> first | with_reducible assumption | first | lia | grind [zu_at, zu_atL, zvn])
  refine zw_if (fun c4 => ?_) (fun c4 => ?_)
  · refine zw_some ?_
    first | exact True.intro | ((try dsimp only); (repeat' apply And.intro) <;> first | with_reducible assumption | first | lia | grind [zu_at, zu_atL, zvn])
  refine zw_zg32 28 (by decide) (by (try dsimp only); first | lia | grind [zu_at, zu_atL, zvn]) ?_
  refine zw_some ?_
  first | exact True.intro | ((try dsimp only); (repeat' apply And.intro) <;> first | with_reducible assumption | first | lia | grind [zu_at, zu_atL, zvn])
set_option maxHeartbeats 4000000 in
set_option maxRecDepth 100000 in
theorem sf_X6_lowOf (p2 : Int32) (p3 : Int32) (v1_0 : Int32) (f2 : Nat → Int32) (f3 : Nat → Int32) (f4 : Nat → Int64) (h_p2 : 0 ≤ p2 ∧ p2 ≤ 13) (h_v1_0 : 0 ≤ v1_0 ∧ v1_0 ≤ 14) : zw (fn_X6_lowOf p2 p3 v1_0 f2 f3 f4) (fun r => True) := by
  unfold fn_X6_lowOf
  refine zw_zb0 (sf_X4_madeOf p2 p3 v1_0 f2 (by first | with_reducible assumption | exact ⟨by with_reducible assumption, by with_reducible assumption⟩ | first | lia | grind [zu_at, zu_atL, zvn])) (fun o_1 ho_1 => ?_)
  refine zw_if (fun c1 => ?_) (fun c1 => ?_)
  · refine zw_zb0 (sf_X4_amountOf p2 p3 v1_0 f3 (by first | with_reducible assumption | exact ⟨by with_reducible assumption, by with_reducible assumption⟩ | first | lia | grind [zu_at, zu_atL, zvn])) (fun o_6 ho_6 => ?_)
    refine zw_some ?_
    first | exact True.intro | ((try dsimp only); (repeat' apply And.intro) <;> first | with_reducible assumption | first | lia | grind [zu_at, zu_atL, zvn])
  refine zw_if (fun c2 => ?_) (fun c2 => ?_)
  · refine zw_zb0 (sf_X4_amountOf p2 p3 v1_0 f3 (by first | with_reducible assumption | exact ⟨by with_reducible assumption, by with_reducible assumption⟩ | first | lia | grind [zu_at, zu_atL, zvn])) (fun o_11 ho_11 => ?_)
    refine zw_some ?_
    first | exact True.intro | ((try dsimp only); (repeat' apply And.intro) <;> first | with_reducible assumption | first | lia | grind [zu_at, zu_atL, zvn])
  refine zw_zg32 14 (by decide) (by (try dsimp only); first | lia | grind [zu_at, zu_atL, zvn]) ?_
  refine zw_some ?_
  first | exact True.intro | ((try dsimp only); (repeat' apply And.intro) <;> first | with_reducible assumption | first | lia | grind [zu_at, zu_atL, zvn])
set_option maxHeartbeats 4000000 in
set_option maxRecDepth 100000 in
theorem sf_X11_nearest (j0 : Int64) (j1 : Int64) (j2 : Int64) : zw (fn_X11_nearest j0 j1 j2) (fun r => True) := by
  unfold fn_X11_nearest
  refine zw_ifc (lg_cmp_ge _ _) (fun c1 => ?_) (fun c1 => ?_)
  · refine zw_zb0 (sf_J9_floorDiv_f86c9 (((2 : Int64) * j0) + (j1 * j2)) ((2 : Int64) * (j1 * j2)) (by first | with_reducible assumption | exact ⟨by with_reducible assumption, by with_reducible assumption⟩ | first | lia | grind [zu_at, zu_atL, zvn, zdbl])) (fun o_2 ho_2 => ?_)
    refine zw_some ?_
    first | exact True.intro | ((try dsimp only); (repeat' apply And.intro) <;> first | with_reducible assumption | first | lia | grind [zu_at, zu_atL, zvn, zdbl])
  refine zw_some ?_
  first | exact True.intro | ((try dsimp only); (repeat' apply And.intro) <;> first | with_reducible assumption | first | lia | grind [zu_at, zu_atL, zvn, zdbl])
set_option maxHeartbeats 4000000 in
set_option maxRecDepth 100000 in
theorem sf_X11_apply (p0 : Int32) (j1 : Int64) (j2 : Int64) (j3 : Int64) : zw (fn_X11_apply p0 j1 j2 j3) (fun r => True) := by
  unfold fn_X11_apply
  refine zw_if (fun c1 => ?_) (fun c1 => ?_)
  · refine zw_some ?_
    first | exact True.intro | ((try dsimp only); (repeat' apply And.intro) <;> first | with_reducible assumption | first | lia | grind [zu_at, zu_atL, zvn])
  refine zw_if (fun c2 => ?_) (fun c2 => ?_)
  · refine zw_some ?_
    first | exact True.intro | ((try dsimp only); (repeat' apply And.intro) <;> first | with_reducible assumption | first | lia | grind [zu_at, zu_atL, zvn])
  refine zw_if (fun c3 => ?_) (fun c3 => ?_)
  · refine zw_zb0 (sf_X11_nearest (j1 * j2) (1000 : Int64) j3) (fun o_4 ho_4 => ?_)
    refine zw_some ?_
    first | exact True.intro | ((try dsimp only); (repeat' apply And.intro) <;> first | with_reducible assumption | first | lia | grind [zu_at, zu_atL, zvn])
  refine zw_if (fun c4 => ?_) (fun c4 => ?_)
  · refine zw_some ?_
    first | exact True.intro | ((try dsimp only); (repeat' apply And.intro) <;> first | with_reducible assumption | first | lia | grind [zu_at, zu_atL, zvn])
  refine zw_if (fun c5 => ?_) (fun c5 => ?_)
  · refine zw_some ?_
    first | exact True.intro | ((try dsimp only); (repeat' apply And.intro) <;> first | with_reducible assumption | first | lia | grind [zu_at, zu_atL, zvn])
  refine zw_some ?_
  first | exact True.intro | ((try dsimp only); (repeat' apply And.intro) <;> first | with_reducible assumption | first | lia | grind [zu_at, zu_atL, zvn])
set_option maxHeartbeats 4000000 in
set_option maxRecDepth 100000 in
theorem sf_X6_highOf (p2 : Int32) (p3 : Int32) (v1_0 : Int32) (f2 : Nat → Int32) (f3 : Nat → Int32) (f4 : Nat → Int64) (h_p2 : 0 ≤ p2 ∧ p2 ≤ 13) (h_v1_0 : 0 ≤ v1_0 ∧ v1_0 ≤ 14) : zw (fn_X6_highOf p2 p3 v1_0 f2 f3 f4) (fun r => True) := by
  unfold fn_X6_highOf
  refine zw_zb0 (sf_X4_madeOf p2 p3 v1_0 f2 (by first | with_reducible assumption | exact ⟨by with_reducible assumption, by with_reducible assumption⟩ | first | lia | grind [zu_at, zu_atL, zvn])) (fun o_1 ho_1 => ?_)
  refine zw_if (fun c1 => ?_) (fun c1 => ?_)
  · refine zw_zb0 (sf_X4_amountOf p2 p3 v1_0 f3 (by first | with_reducible assumption | exact ⟨by with_reducible assumption, by with_reducible assumption⟩ | first | lia | grind [zu_at, zu_atL, zvn])) (fun o_6 ho_6 => ?_)
    refine zw_some ?_
    first | exact True.intro | ((try dsimp only); (repeat' apply And.intro) <;> first | with_reducible assumption | first | lia | grind [zu_at, zu_atL, zvn])
  refine zw_if (fun c2 => ?_) (fun c2 => ?_)
  · refine zw_zb0 (sf_X4_amountOf p2 p3 v1_0 f3 (by first | with_reducible assumption | exact ⟨by with_reducible assumption, by with_reducible assumption⟩ | first | lia | grind [zu_at, zu_atL, zvn])) (fun o_11 ho_11 => ?_)
    refine zw_some ?_
    first | exact True.intro | ((try dsimp only); (repeat' apply And.intro) <;> first | with_reducible assumption | first | lia | grind [zu_at, zu_atL, zvn])
  refine zw_zg32 14 (by decide) (by (try dsimp only); first | lia | grind [zu_at, zu_atL, zvn]) ?_
  refine zw_some ?_
  first | exact True.intro | ((try dsimp only); (repeat' apply And.intro) <;> first | with_reducible assumption | first | lia | grind [zu_at, zu_atL, zvn])
set_option maxHeartbeats 4000000 in
set_option maxRecDepth 100000 in
theorem sf_X6_endProduct (p2 : Int32) (j3 : Int64) (p4 : Int32) (v1_0 : Int32) (f2 : Nat → Int32) (f3 : Nat → Int32) (f4 : Nat → Int64) (f5 : Nat → Int64) (h_p2 : 0 ≤ p2 ∧ p2 ≤ 13) (h_p4 : 0 ≤ p4 ∧ p4 ≤ 1) (h_v1_0 : 0 ≤ v1_0 ∧ v1_0 ≤ 14) : zw (fn_X6_endProduct p2 j3 p4 v1_0 f2 f3 f4 f5) (fun r => True) := by
  unfold fn_X6_endProduct
  refine zw_zb0 (sf_X6_lowOf p2 1 v1_0 f2 f3 f4 (by first | with_reducible assumption | exact ⟨by with_reducible assumption, by with_reducible assumption⟩ | first | lia | grind [zu_at, zu_atL, zvn]) (by first | with_reducible assumption | exact ⟨by with_reducible assumption, by with_reducible assumption⟩ | first | lia | grind [zu_at, zu_atL, zvn])) (fun o_1 ho_1 => ?_)
  refine zw_zb0 (sf_X11_apply 3 j3 o_1 (1 : Int64)) (fun o_5 ho_5 => ?_)
  refine zw_zb0 (sf_X6_highOf p2 1 v1_0 f2 f3 f5 (by first | with_reducible assumption | exact ⟨by with_reducible assumption, by with_reducible assumption⟩ | first | lia | grind [zu_at, zu_atL, zvn]) (by first | with_reducible assumption | exact ⟨by with_reducible assumption, by with_reducible assumption⟩ | first | lia | grind [zu_at, zu_atL, zvn])) (fun o_9 ho_9 => ?_)
  refine zw_zb0 (sf_X11_apply 3 j3 o_9 (1 : Int64)) (fun o_13 ho_13 => ?_)
  refine zw_if (fun c1 => ?_) (fun c1 => ?_)
  · refine zw_some ?_
    first | exact True.intro | ((try dsimp only); (repeat' apply And.intro) <;> first | with_reducible assumption | first | lia | grind [zu_at, zu_atL, zvn])
  refine zw_some ?_
  first | exact True.intro | ((try dsimp only); (repeat' apply And.intro) <;> first | with_reducible assumption | first | lia | grind [zu_at, zu_atL, zvn])
set_option maxHeartbeats 4000000 in
set_option maxRecDepth 100000 in
theorem sf_X6_lowest (p2 : Int32) (v1_0 : Int32) (f2 : Nat → Int32) (f3 : Nat → Int32) (f4 : Nat → Int32) (f5 : Nat → Int64) (f6 : Nat → Int64) (h_p2 : 0 ≤ p2 ∧ p2 ≤ 13) (h_v1_0 : 0 ≤ v1_0 ∧ v1_0 ≤ 14) : zw (fn_X6_lowest p2 v1_0 f2 f3 f4 f5 f6) (fun r => True) := by
  unfold fn_X6_lowest
  refine zw_zg32 14 (by decide) (by (try dsimp only); first | lia | grind [zu_at, zu_atL, zvn]) ?_
  refine zw_zb0 (sf_X6_lowOf p2 0 v1_0 f3 f4 f5 (by first | with_reducible assumption | exact ⟨by with_reducible assumption, by with_reducible assumption⟩ | first | lia | grind [zu_at, zu_atL, zvn]) (by first | with_reducible assumption | exact ⟨by with_reducible assumption, by with_reducible assumption⟩ | first | lia | grind [zu_at, zu_atL, zvn])) (fun o_2 ho_2 => ?_)
  refine zw_if (fun c1 => ?_) (fun c1 => ?_)
  · refine zw_some ?_
    first | exact True.intro | ((try dsimp only); (repeat' apply And.intro) <;> first | with_reducible assumption | first | lia | grind [zu_at, zu_atL, zvn])
  refine zw_if (fun c2 => ?_) (fun c2 => ?_)
  · refine zw_zb0 (sf_X6_endProduct p2 o_2 0 v1_0 f3 f4 f5 f6 (by first | with_reducible assumption | exact ⟨by with_reducible assumption, by with_reducible assumption⟩ | first | lia | grind [zu_at, zu_atL, zvn]) (by first | with_reducible assumption | exact ⟨by with_reducible assumption, by with_reducible assumption⟩ | first | lia | grind [zu_at, zu_atL, zvn]) (by first | with_reducible assumption | exact ⟨by with_reducible assumption, by with_reducible assumption⟩ | first | lia | grind [zu_at, zu_atL, zvn])) (fun o_8 ho_8 => ?_)
    refine zw_zb0 (sf_X6_highOf p2 0 v1_0 f3 f4 f6 (by first | with_reducible assumption | exact ⟨by with_reducible assumption, by with_reducible assumption⟩ | first | lia | grind [zu_at, zu_atL, zvn]) (by first | with_reducible assumption | exact ⟨by with_reducible assumption, by with_reducible assumption⟩ | first | lia | grind [zu_at, zu_atL, zvn])) (fun o_12 ho_12 => ?_)
    refine zw_zb0 (sf_X6_endProduct p2 o_12 0 v1_0 f3 f4 f5 f6 (by first | with_reducible assumption | exact ⟨by with_reducible assumption, by with_reducible assumption⟩ | first | lia | grind [zu_at, zu_atL, zvn]) (by first | with_reducible assumption | exact ⟨by with_reducible assumption, by with_reducible assumption⟩ | first | lia | grind [zu_at, zu_atL, zvn]) (by first | with_reducible assumption | exact ⟨by with_reducible assumption, by with_reducible assumption⟩ | first | lia | grind [zu_at, zu_atL, zvn])) (fun o_16 ho_16 => ?_)
    refine zw_some ?_
    first | exact True.intro | ((try dsimp only); (repeat' apply And.intro) <;> first | with_reducible assumption | first | lia | grind [zu_at, zu_atL, zvn])
  refine zw_if (fun c3 => ?_) (fun c3 => ?_)
  · refine zw_zb0 (sf_X6_highOf p2 1 v1_0 f3 f4 f6 (by first | with_reducible assumption | exact ⟨by with_reducible assumption, by with_reducible assumption⟩ | first | lia | grind [zu_at, zu_atL, zvn]) (by first | with_reducible assumption | exact ⟨by with_reducible assumption, by with_reducible assumption⟩ | first | lia | grind [zu_at, zu_atL, zvn])) (fun o_29 ho_29 => ?_)
    refine zw_zb0 (sf_X11_apply (f2 p2.toNatClampNeg) o_2 o_29 (1 : Int64)) (fun o_33 ho_33 => ?_)
    refine zw_some ?_
    first | exact True.intro | ((try dsimp only); (repeat' apply And.intro) <;> first | with_reducible assumption | first | lia | grind [zu_at, zu_atL, zvn])
  refine zw_zb0 (sf_X6_lowOf p2 1 v1_0 f3 f4 f5 (by first | with_reducible assumption | exact ⟨by with_reducible assumption, by with_reducible assumption⟩ | first | lia | grind [zu_at, zu_atL, zvn]) (by first | with_reducible assumption | exact ⟨by with_reducible assumption, by with_reducible assumption⟩ | first | lia | grind [zu_at, zu_atL, zvn])) (fun o_21 ho_21 => ?_)
  refine zw_zb0 (sf_X11_apply (f2 p2.toNatClampNeg) o_2 o_21 (1 : Int64)) (fun o_25 ho_25 => ?_)
  refine zw_some ?_
  first | exact True.intro | ((try dsimp only); (repeat' apply And.intro) <;> first | with_reducible assumption | first | lia | grind [zu_at, zu_atL, zvn])
set_option maxHeartbeats 4000000 in
set_option maxRecDepth 100000 in
theorem sf_X6_highest (p2 : Int32) (v1_0 : Int32) (f2 : Nat → Int32) (f3 : Nat → Int32) (f4 : Nat → Int32) (f5 : Nat → Int64) (f6 : Nat → Int64) (h_p2 : 0 ≤ p2 ∧ p2 ≤ 13) (h_v1_0 : 0 ≤ v1_0 ∧ v1_0 ≤ 14) : zw (fn_X6_highest p2 v1_0 f2 f3 f4 f5 f6) (fun r => True) := by
  unfold fn_X6_highest
  refine zw_zg32 14 (by decide) (by (try dsimp only); first | lia | grind [zu_at, zu_atL, zvn]) ?_
  refine zw_if (fun c1 => ?_) (fun c1 => ?_)
  · refine zw_zb0 (sf_X6_highOf p2 1 v1_0 f3 f4 f5 (by first | with_reducible assumption | exact ⟨by with_reducible assumption, by with_reducible assumption⟩ | first | lia | grind [zu_at, zu_atL, zvn]) (by first | with_reducible assumption | exact ⟨by with_reducible assumption, by with_reducible assumption⟩ | first | lia | grind [zu_at, zu_atL, zvn])) (fun o_37 ho_37 => ?_)
    refine zw_some ?_
    first | exact True.intro | ((try dsimp only); (repeat' apply And.intro) <;> first | with_reducible assumption | first | lia | grind [zu_at, zu_atL, zvn])
  refine zw_zb0 (sf_X6_highOf p2 0 v1_0 f3 f4 f5 (by first | with_reducible assumption | exact ⟨by with_reducible assumption, by with_reducible assumption⟩ | first | lia | grind [zu_at, zu_atL, zvn]) (by first | with_reducible assumption | exact ⟨by with_reducible assumption, by with_reducible assumption⟩ | first | lia | grind [zu_at, zu_atL, zvn])) (fun o_3 ho_3 => ?_)
  refine zw_if (fun c2 => ?_) (fun c2 => ?_)
  · refine zw_zb0 (sf_X6_endProduct p2 o_3 1 v1_0 f3 f4 f6 f5 (by first | with_reducible assumption | exact ⟨by with_reducible assumption, by with_reducible assumption⟩ | first | lia | grind [zu_at, zu_atL, zvn]) (by first | with_reducible assumption | exact ⟨by with_reducible assumption, by with_reducible assumption⟩ | first | lia | grind [zu_at, zu_atL, zvn]) (by first | with_reducible assumption | exact ⟨by with_reducible assumption, by with_reducible assumption⟩ | first | lia | grind [zu_at, zu_atL, zvn])) (fun o_8 ho_8 => ?_)
    refine zw_zb0 (sf_X6_lowOf p2 0 v1_0 f3 f4 f6 (by first | with_reducible assumption | exact ⟨by with_reducible assumption, by with_reducible assumption⟩ | first | lia | grind [zu_at, zu_atL, zvn]) (by first | with_reducible assumption | exact ⟨by with_reducible assumption, by with_reducible assumption⟩ | first | lia | grind [zu_at, zu_atL, zvn])) (fun o_12 ho_12 => ?_)
    refine zw_zb0 (sf_X6_endProduct p2 o_12 1 v1_0 f3 f4 f6 f5 (by first | with_reducible assumption | exact ⟨by with_reducible assumption, by with_reducible assumption⟩ | first | lia | grind [zu_at, zu_atL, zvn]) (by first | with_reducible assumption | exact ⟨by with_reducible assumption, by with_reducible assumption⟩ | first | lia | grind [zu_at, zu_atL, zvn]) (by first | with_reducible assumption | exact ⟨by with_reducible assumption, by with_reducible assumption⟩ | first | lia | grind [zu_at, zu_atL, zvn])) (fun o_16 ho_16 => ?_)
    refine zw_some ?_
    first | exact True.intro | ((try dsimp only); (repeat' apply And.intro) <;> first | with_reducible assumption | first | lia | grind [zu_at, zu_atL, zvn])
  refine zw_if (fun c3 => ?_) (fun c3 => ?_)
  · refine zw_zb0 (sf_X6_lowOf p2 1 v1_0 f3 f4 f6 (by first | with_reducible assumption | exact ⟨by with_reducible assumption, by with_reducible assumption⟩ | first | lia | grind [zu_at, zu_atL, zvn]) (by first | with_reducible assumption | exact ⟨by with_reducible assumption, by with_reducible assumption⟩ | first | lia | grind [zu_at, zu_atL, zvn])) (fun o_29 ho_29 => ?_)
    refine zw_zb0 (sf_X11_apply (f2 p2.toNatClampNeg) o_3 o_29 (1 : Int64)) (fun o_33 ho_33 => ?_)
    refine zw_some ?_
    first | exact True.intro | ((try dsimp only); (repeat' apply And.intro) <;> first | with_reducible assumption | first | lia | grind [zu_at, zu_atL, zvn])
  refine zw_zb0 (sf_X6_highOf p2 1 v1_0 f3 f4 f5 (by first | with_reducible assumption | exact ⟨by with_reducible assumption, by with_reducible assumption⟩ | first | lia | grind [zu_at, zu_atL, zvn]) (by first | with_reducible assumption | exact ⟨by with_reducible assumption, by with_reducible assumption⟩ | first | lia | grind [zu_at, zu_atL, zvn])) (fun o_21 ho_21 => ?_)
  refine zw_zb0 (sf_X11_apply (f2 p2.toNatClampNeg) o_3 o_21 (1 : Int64)) (fun o_25 ho_25 => ?_)
  refine zw_some ?_
  first | exact True.intro | ((try dsimp only); (repeat' apply And.intro) <;> first | with_reducible assumption | first | lia | grind [zu_at, zu_atL, zvn])
set_option maxHeartbeats 4000000 in
set_option maxRecDepth 100000 in
theorem sf_X9_formatOf (p2 : Int32) (v1_0 : Int32) (f3 : Nat → Int32) (f4 : Nat → Int32) (h_v1_0 : 0 ≤ v1_0 ∧ v1_0 ≤ 14) (h_f3 : (∀ i : Nat, 0 ≤ f3 i ∧ f3 i ≤ 13)) : zw (fn_X9_formatOf p2 v1_0 f3 f4) (fun r => True) := by
  unfold fn_X9_formatOf
  refine zw_zj (fun s_1 => (-1) ≤ s_1 ∧ s_1 ≤ 13) (fun s_1 Hj_1 => ?_) (fun j_1 hj_1 => ?_)
  · obtain ⟨Hj_1_0, Hj_1_1⟩ := Hj_1
    refine zw_if (fun c1 => ?_) (fun c1 => ?_)
    · refine zw_some ?_
      first | exact True.intro | ((try dsimp only); first | with_reducible assumption | grind [zu_at, zu_atL, zvn] | ((repeat' apply And.intro) <;> first | with_reducible assumption | ((try clear hj_1); first | lia | grind [zu_at, zu_atL, zvn])))
    refine zw_if (fun c2 => ?_) (fun c2 => ?_)
    · refine zw_some ?_
      first | exact True.intro | ((try dsimp only); first | with_reducible assumption | grind [zu_at, zu_atL, zvn] | ((repeat' apply And.intro) <;> first | with_reducible assumption | ((try clear hj_1); first | lia | grind [zu_at, zu_atL, zvn])))
    refine zw_zg32 14 (by decide) (by (try dsimp only); ((try clear hj_1); first | lia | grind [zu_at, zu_atL, zvn])) ?_
    refine zw_some ?_
    first | exact True.intro | ((try dsimp only); first | with_reducible assumption | grind [zu_at, zu_atL, zvn] | ((repeat' apply And.intro) <;> first | with_reducible assumption | ((try clear hj_1); first | lia | grind [zu_at, zu_atL, zvn])))
  refine zw_zj (fun _ => True) (fun s_5 Hj_5 => ?_) (fun j_5 hj_5 => ?_)
  · exact hj_1 _ (by first | exact True.intro | ((try dsimp only); first | with_reducible assumption | grind [zu_at, zu_atL, zvn] | ((repeat' apply And.intro) <;> first | with_reducible assumption | ((try clear hj_1); (try clear hj_5); first | lia | grind [zu_at, zu_atL, zvn]))))
  refine zw_if (fun c3 => ?_) (fun c3 => ?_)
  · exact hj_5 _ (by first | exact True.intro | ((try dsimp only); first | with_reducible assumption | grind [zu_at, zu_atL, zvn] | ((repeat' apply And.intro) <;> first | with_reducible assumption | ((try clear hj_1); (try clear hj_5); first | lia | grind [zu_at, zu_atL, zvn]))))
  refine zw_if (fun c4 => ?_) (fun c4 => ?_)
  · exact hj_5 _ (by first | exact True.intro | ((try dsimp only); first | with_reducible assumption | grind [zu_at, zu_atL, zvn] | ((repeat' apply And.intro) <;> first | with_reducible assumption | ((try clear hj_1); (try clear hj_5); first | lia | grind [zu_at, zu_atL, zvn]))))
  refine zw_zg32 14 (by decide) (by (try dsimp only); ((try clear hj_1); (try clear hj_5); first | lia | grind [zu_at, zu_atL, zvn])) ?_
  exact hj_1 _ (by first | exact True.intro | ((try dsimp only); first | with_reducible assumption | grind [zu_at, zu_atL, zvn] | ((repeat' apply And.intro) <;> first | with_reducible assumption | ((try clear hj_1); (try clear hj_5); first | lia | grind [zu_at, zu_atL, zvn]))))
set_option maxHeartbeats 4000000 in
set_option maxRecDepth 100000 in
theorem sf_X9_stepOf (p1 : Int32) (v0_0 : Int32) (f1 : Nat → Int32) (h_v0_0 : 0 ≤ v0_0 ∧ v0_0 ≤ 4) : zw (fn_X9_stepOf p1 v0_0 f1) (fun r => True) := by
  unfold fn_X9_stepOf
  refine zw_if (fun c1 => ?_) (fun c1 => ?_)
  · refine zw_some ?_
    first | exact True.intro | ((try dsimp only); first | with_reducible assumption | grind [zu_at, zu_atL, zvn] | ((repeat' apply And.intro) <;> first | with_reducible assumption | first | lia | grind [zu_at, zu_atL, zvn]))
  refine zw_if (fun c2 => ?_) (fun c2 => ?_)
  · refine zw_some ?_
    first | exact True.intro | ((try dsimp only); first | with_reducible assumption | grind [zu_at, zu_atL, zvn] | ((repeat' apply And.intro) <;> first | with_reducible assumption | first | lia | grind [zu_at, zu_atL, zvn]))
  refine zw_zg32 4 (by decide) (by (try dsimp only); first | lia | grind [zu_at, zu_atL, zvn]) ?_
  refine zw_some ?_
  first | exact True.intro | ((try dsimp only); first | with_reducible assumption | grind [zu_at, zu_atL, zvn] | ((repeat' apply And.intro) <;> first | with_reducible assumption | first | lia | grind [zu_at, zu_atL, zvn]))
set_option maxHeartbeats 4000000 in
set_option maxRecDepth 100000 in
theorem sf_X11_divides (j0 : Int64) (j1 : Int64) : zw (fn_X11_divides j0 j1) (fun r => 0 ≤ r ∧ r ≤ 1) := by
  unfold fn_X11_divides
  refine zw_ifc (lg_cmp_eq _ _) (fun c1 => ?_) (fun c1 => ?_)
  · refine zw_some ?_
    first | exact True.intro | ((try dsimp only); (repeat' apply And.intro) <;> first | with_reducible assumption | first | lia | grind [zu_at, zu_atL, zvn])
  refine zw_zd (by (try dsimp only); first | lia | grind [zu_at, zu_atL, zvn]) ?_
  refine zw_ifc (lg_cmp_eq _ _) (fun c2 => ?_) (fun c2 => ?_)
  · refine zw_some ?_
    first | exact True.intro | ((try dsimp only); (repeat' apply And.intro) <;> first | with_reducible assumption | first | lia | grind [zu_at, zu_atL, zvn])
  refine zw_some ?_
  first | exact True.intro | ((try dsimp only); (repeat' apply And.intro) <;> first | with_reducible assumption | first | lia | grind [zu_at, zu_atL, zvn])
set_option maxHeartbeats 4000000 in
set_option maxRecDepth 100000 in
theorem sf_X7_errorBehindCast (p3 : Int32) (p4 : Int32) (v1_0 : Int32) (v2_0 : Int32) (f4 : Nat → Int32) (f5 : Nat → Int32) (f6 : Nat → Int32) (f7 : Nat → Int32) (f8 : Nat → Int64) (f9 : Nat → Int32) (h_p3 : 0 ≤ p3 ∧ p3 ≤ 13) (h_v1_0 : 0 ≤ v1_0 ∧ v1_0 ≤ 4) (h_v2_0 : 0 ≤ v2_0 ∧ v2_0 ≤ 14) (h_f4 : (∀ i : Nat, 0 ≤ f4 i ∧ f4 i ≤ 13)) : zw (fn_X7_errorBehindCast p3 p4 v1_0 v2_0 f4 f5 f6 f7 f8 f9) (fun r => True) := by
  unfold fn_X7_errorBehindCast
  refine zw_zb0 (sf_X9_formatOf p3 v2_0 f4 f5 (by first | with_reducible assumption | exact ⟨by with_reducible assumption, by with_reducible assumption⟩ | first | lia | grind [zu_at, zu_atL, zvn]) (by first | with_reducible assumption | exact ⟨by with_reducible assumption, by with_reducible assumption⟩ | first | lia | grind [zu_at, zu_atL, zvn])) (fun o_1 ho_1 => ?_)
  refine zw_zb0 (sf_X9_stepOf o_1 v1_0 f6 (by first | with_reducible assumption | exact ⟨by with_reducible assumption, by with_reducible assumption⟩ | first | lia | grind [zu_at, zu_atL, zvn])) (fun o_5 ho_5 => ?_)
  refine zw_zb0 (sf_X4_madeOf p3 p4 v2_0 f7 (by first | with_reducible assumption | exact ⟨by with_reducible assumption, by with_reducible assumption⟩ | first | lia | grind [zu_at, zu_atL, zvn])) (fun o_9 ho_9 => ?_)
  refine zw_zj (fun _ => True) (fun s_13 Hj_13 => ?_) (fun j_13 hj_13 => ?_)
  · refine zw_zb0 (sf_X4_amountOf p3 p4 v2_0 f9 (by first | with_reducible assumption | exact ⟨by with_reducible assumption, by with_reducible assumption⟩ | ((try clear hj_13); first | lia | grind [zu_at, zu_atL, zvn]))) (fun o_14 ho_14 => ?_)
    refine zw_zb0 (sf_X11_divides o_5.toInt64 o_14) (fun o_18 ho_18 => ?_)
    obtain ⟨ho_18_0, ho_18_1⟩ := ho_18
    refine zw_if (fun c1 => ?_) (fun c1 => ?_)
    · refine zw_some ?_
      first | exact True.intro | ((try dsimp only); (repeat' apply And.intro) <;> first | with_reducible assumption | ((try clear hj_13); first | lia | grind [zu_at, zu_atL, zvn]))
    refine zw_some ?_
    first | exact True.intro | ((try dsimp only); (repeat' apply And.intro) <;> first | with_reducible assumption | ((try clear hj_13); first | lia | grind [zu_at, zu_atL, zvn]))
  refine zw_if (fun c2 => ?_) (fun c2 => ?_)
  · exact hj_13 _ (by first | exact True.intro | ((try dsimp only); (repeat' apply And.intro) <;> first | with_reducible assumption | ((try clear hj_13); first | lia | grind [zu_at, zu_atL, zvn])))
  refine zw_if (fun c3 => ?_) (fun c3 => ?_)
  · refine zw_zb0 (sf_X9_formatOf o_9 v2_0 f4 f5 (by first | with_reducible assumption | exact ⟨by with_reducible assumption, by with_reducible assumption⟩ | ((try clear hj_13); first | lia | grind [zu_at, zu_atL, zvn])) (by first | with_reducible assumption | exact ⟨by with_reducible assumption, by with_reducible assumption⟩ | ((try clear hj_13); first | lia | grind [zu_at, zu_atL, zvn]))) (fun o_25 ho_25 => ?_)
    refine zw_zb0 (sf_X9_stepOf o_25 v1_0 f6 (by first | with_reducible assumption | exact ⟨by with_reducible assumption, by with_reducible assumption⟩ | ((try clear hj_13); first | lia | grind [zu_at, zu_atL, zvn]))) (fun o_29 ho_29 => ?_)
    refine zw_zg32 14 (by decide) (by (try dsimp only); ((try clear hj_13); first | lia | grind [zu_at, zu_atL, zvn])) ?_
    refine zw_zb0 (sf_X11_divides o_5.toInt64 o_29.toInt64) (fun o_34 ho_34 => ?_)
    obtain ⟨ho_34_0, ho_34_1⟩ := ho_34
    refine zw_if (fun c4 => ?_) (fun c4 => ?_)
    · refine zw_some ?_
      first | exact True.intro | ((try dsimp only); (repeat' apply And.intro) <;> first | with_reducible assumption | ((try clear hj_13); first | lia | grind [zu_at, zu_atL, zvn]))
    refine zw_some ?_
    first | exact True.intro | ((try dsimp only); (repeat' apply And.intro) <;> first | with_reducible assumption | ((try clear hj_13); first | lia | grind [zu_at, zu_atL, zvn]))
  exact hj_13 _ (by first | exact True.intro | ((try dsimp only); (repeat' apply And.intro) <;> first | with_reducible assumption | ((try clear hj_13); first | lia | grind [zu_at, zu_atL, zvn])))
set_option maxHeartbeats 4000000 in
set_option maxRecDepth 100000 in
theorem sf_X6_amountOfWhat (p2 : Int32) (p3 : Int32) (v1_0 : Int32) (f2 : Nat → Int32) (f3 : Nat → Int32) (f4 : Nat → Int64) (f5 : Nat → Int64) (h_p2 : 0 ≤ p2 ∧ p2 ≤ 13) (h_v1_0 : 0 ≤ v1_0 ∧ v1_0 ≤ 14) : zw (fn_X6_amountOfWhat p2 p3 v1_0 f2 f3 f4 f5) (fun r => True) := by
  unfold fn_X6_amountOfWhat
  refine zw_zb0 (sf_X4_madeOf p2 p3 v1_0 f2 (by first | with_reducible assumption | exact ⟨by with_reducible assumption, by with_reducible assumption⟩ | first | lia | grind [zu_at, zu_atL, zvn])) (fun o_1 ho_1 => ?_)
  refine zw_if (fun c1 => ?_) (fun c1 => ?_)
  · refine zw_zb0 (sf_X4_amountOf p2 p3 v1_0 f3 (by first | with_reducible assumption | exact ⟨by with_reducible assumption, by with_reducible assumption⟩ | first | lia | grind [zu_at, zu_atL, zvn])) (fun o_6 ho_6 => ?_)
    refine zw_some ?_
    first | exact True.intro | ((try dsimp only); (repeat' apply And.intro) <;> first | with_reducible assumption | first | lia | grind [zu_at, zu_atL, zvn])
  refine zw_if (fun c2 => ?_) (fun c2 => ?_)
  · refine zw_zg32 14 (by decide) (by (try dsimp only); first | lia | grind [zu_at, zu_atL, zvn]) ?_
    refine zw_zn (fun x_12 ex_12 => ?_)
    refine zw_zn (fun x_13 ex_13 => ?_)
    refine zw_some ?_
    first | exact True.intro | ((try dsimp only); (repeat' apply And.intro) <;> first | with_reducible assumption | first | lia | grind [zu_at, zu_atL, zvn])
  refine zw_zb0 (sf_X4_amountOf p2 p3 v1_0 f3 (by first | with_reducible assumption | exact ⟨by with_reducible assumption, by with_reducible assumption⟩ | first | lia | grind [zu_at, zu_atL, zvn])) (fun o_14 ho_14 => ?_)
  refine zw_some ?_
  first | exact True.intro | ((try dsimp only); (repeat' apply And.intro) <;> first | with_reducible assumption | first | lia | grind [zu_at, zu_atL, zvn])
set_option maxHeartbeats 4000000 in
set_option maxRecDepth 100000 in
theorem sf_X7_errorOf (p4 : Int32) (v1_0 : Int32) (v2_0 : Int32) (f4 : Nat → Int32) (f5 : Nat → Int32) (f6 : Nat → Int32) (f7 : Nat → Int32) (f8 : Nat → Int32) (f9 : Nat → Int64) (f10 : Nat → Int32) (f12 : Nat → Int64) (f13 : Nat → Int64) (h_p4 : 0 ≤ p4 ∧ p4 ≤ 13) (h_v1_0 : 0 ≤ v1_0 ∧ v1_0 ≤ 4) (h_v2_0 : 0 ≤ v2_0 ∧ v2_0 ≤ 14) (h_f4 : (∀ i : Nat, 0 ≤ f4 i ∧ f4 i ≤ 13)) : zw (fn_X7_errorOf p4 v1_0 v2_0 f4 f5 f6 f7 f8 f9 f10 f12 f13) (fun r => True) := by
  unfold fn_X7_errorOf
  refine zw_zb0 (sf_X9_formatOf p4 v2_0 f4 f5 (by first | with_reducible assumption | exact ⟨by with_reducible assumption, by with_reducible assumption⟩ | first | lia | grind [zu_at, zu_atL, zvn]) (by first | with_reducible assumption | exact ⟨by with_reducible assumption, by with_reducible assumption⟩ | first | lia | grind [zu_at, zu_atL, zvn])) (fun o_1 ho_1 => ?_)
  refine zw_zb0 (sf_X9_stepOf o_1 v1_0 f6 (by first | with_reducible assumption | exact ⟨by with_reducible assumption, by with_reducible assumption⟩ | first | lia | grind [zu_at, zu_atL, zvn])) (fun o_5 ho_5 => ?_)
  refine zw_zg32 14 (by decide) (by (try dsimp only); first | lia | grind [zu_at, zu_atL, zvn]) ?_
  refine zw_if (fun c1 => ?_) (fun c1 => ?_)
  · refine zw_some ?_
    first | exact True.intro | ((try dsimp only); (repeat' apply And.intro) <;> first | with_reducible assumption | first | lia | grind [zu_at, zu_atL, zvn])
  refine zw_zb0 (sf_X7_errorBehindCast p4 0 v1_0 v2_0 f4 f5 f6 f8 f9 f10 (by first | with_reducible assumption | exact ⟨by with_reducible assumption, by with_reducible assumption⟩ | first | lia | grind [zu_at, zu_atL, zvn]) (by first | with_reducible assumption | exact ⟨by with_reducible assumption, by with_reducible assumption⟩ | first | lia | grind [zu_at, zu_atL, zvn]) (by first | with_reducible assumption | exact ⟨by with_reducible assumption, by with_reducible assumption⟩ | first | lia | grind [zu_at, zu_atL, zvn]) (by first | with_reducible assumption | exact ⟨by with_reducible assumption, by with_reducible assumption⟩ | first | lia | grind [zu_at, zu_atL, zvn])) (fun o_11 ho_11 => ?_)
  refine zw_zb0 (sf_X7_errorBehindCast p4 1 v1_0 v2_0 f4 f5 f6 f8 f9 f10 (by first | with_reducible assumption | exact ⟨by with_reducible assumption, by with_reducible assumption⟩ | first | lia | grind [zu_at, zu_atL, zvn]) (by first | with_reducible assumption | exact ⟨by with_reducible assumption, by with_reducible assumption⟩ | first | lia | grind [zu_at, zu_atL, zvn]) (by first | with_reducible assumption | exact ⟨by with_reducible assumption, by with_reducible assumption⟩ | first | lia | grind [zu_at, zu_atL, zvn]) (by first | with_reducible assumption | exact ⟨by with_reducible assumption, by with_reducible assumption⟩ | first | lia | grind [zu_at, zu_atL, zvn])) (fun o_15 ho_15 => ?_)
  refine zw_if (fun c2 => ?_) (fun c2 => ?_)
  · refine zw_some ?_
    first | exact True.intro | ((try dsimp only); (repeat' apply And.intro) <;> first | with_reducible assumption | first | lia | grind [zu_at, zu_atL, zvn])
  refine zw_if (fun c3 => ?_) (fun c3 => ?_)
  · refine zw_some ?_
    first | exact True.intro | ((try dsimp only); (repeat' apply And.intro) <;> first | with_reducible assumption | first | lia | grind [zu_at, zu_atL, zvn])
  refine zw_if (fun c4 => ?_) (fun c4 => ?_)
  · refine zw_zb0 (sf_X6_amountOfWhat p4 0 v2_0 f8 f10 f12 f13 (by first | with_reducible assumption | exact ⟨by with_reducible assumption, by with_reducible assumption⟩ | first | lia | grind [zu_at, zu_atL, zvn]) (by first | with_reducible assumption | exact ⟨by with_reducible assumption, by with_reducible assumption⟩ | first | lia | grind [zu_at, zu_atL, zvn])) (fun o_22 ho_22 => ?_)
    refine zw_zb0 (sf_X6_amountOfWhat p4 1 v2_0 f8 f10 f12 f13 (by first | with_reducible assumption | exact ⟨by with_reducible assumption, by with_reducible assumption⟩ | first | lia | grind [zu_at, zu_atL, zvn]) (by first | with_reducible assumption | exact ⟨by with_reducible assumption, by with_reducible assumption⟩ | first | lia | grind [zu_at, zu_atL, zvn])) (fun o_26 ho_26 => ?_)
    refine zw_zn (fun x_30 ex_30 => ?_)
    refine zw_some ?_
    first | exact True.intro | ((try dsimp only); (repeat' apply And.intro) <;> first | with_reducible assumption | first | lia | grind [zu_at, zu_atL, zvn])
  refine zw_some ?_
  first | exact True.intro | ((try dsimp only); (repeat' apply And.intro) <;> first | with_reducible assumption | first | lia | grind [zu_at, zu_atL, zvn])
set_option maxHeartbeats 4000000 in
set_option maxRecDepth 100000 in
theorem sf_X6_amountOf (p1 : Int32) (f1 : Nat → Int64) (f2 : Nat → Int64) (h_p1 : 0 ≤ p1 ∧ p1 ≤ 13) : zw (fn_X6_amountOf p1 f1 f2) (fun r => True) := by
  unfold fn_X6_amountOf
  refine zw_zg32 14 (by decide) (by (try dsimp only); first | lia | grind [zu_at, zu_atL, zvn]) ?_
  refine zw_zn (fun x_2 ex_2 => ?_)
  refine zw_zn (fun x_3 ex_3 => ?_)
  refine zw_some ?_
  first | exact True.intro | ((try dsimp only); (repeat' apply And.intro) <;> first | with_reducible assumption | first | lia | grind [zu_at, zu_atL, zvn])
set_option maxHeartbeats 4000000 in
set_option maxRecDepth 100000 in
theorem sf_X9_mostOf (p1 : Int32) (v0_0 : Int32) (f1 : Nat → Int32) (h_v0_0 : 0 ≤ v0_0 ∧ v0_0 ≤ 4) : zw (fn_X9_mostOf p1 v0_0 f1) (fun r => True) := by
  unfold fn_X9_mostOf
  refine zw_if (fun c1 => ?_) (fun c1 => ?_)
  · refine zw_some ?_
    first | exact True.intro | ((try dsimp only); first | with_reducible assumption | grind [zu_at, zu_atL, zvn] | ((repeat' apply And.intro) <;> first | with_reducible assumption | first | lia | grind [zu_at, zu_atL, zvn]))
  refine zw_if (fun c2 => ?_) (fun c2 => ?_)
  · refine zw_some ?_
    first | exact True.intro | ((try dsimp only); first | with_reducible assumption | grind [zu_at, zu_atL, zvn] | ((repeat' apply And.intro) <;> first | with_reducible assumption | first | lia | grind [zu_at, zu_atL, zvn]))
  refine zw_zg32 4 (by decide) (by (try dsimp only); first | lia | grind [zu_at, zu_atL, zvn]) ?_
  refine zw_some ?_
  first | exact True.intro | ((try dsimp only); first | with_reducible assumption | grind [zu_at, zu_atL, zvn] | ((repeat' apply And.intro) <;> first | with_reducible assumption | first | lia | grind [zu_at, zu_atL, zvn]))
set_option maxHeartbeats 4000000 in
set_option maxRecDepth 100000 in
theorem sf_X9_hasNumber (p1 : Int32) (v1_0 : Int32) (h_v1_0 : 0 ≤ v1_0 ∧ v1_0 ≤ 14) : zw (fn_X9_hasNumber p1 v1_0) (fun r => 0 ≤ r ∧ r ≤ 1 ∧ r ≤ v1_0 ∧ (¬ r = 0 → 0 ≤ p1 ∧ 1 ≤ r ∧ p1 ≤ 13 ∧ p1 < v1_0) ∧ (r = 1 → 0 ≤ p1 ∧ p1 ≤ 13 ∧ 1 ≤ v1_0 ∧ p1 < v1_0) ∧ (¬ r = 1 → r ≤ 0)) := by
  unfold fn_X9_hasNumber
  refine zw_if (fun c1 => ?_) (fun c1 => ?_)
  · refine zw_some ?_
    first | exact True.intro | ((try dsimp only); first | with_reducible assumption | grind [zu_at, zu_atL, zvn] | ((repeat' apply And.intro) <;> first | with_reducible assumption | first | lia | grind [zu_at, zu_atL, zvn]))
  refine zw_if (fun c2 => ?_) (fun c2 => ?_)
  · refine zw_some ?_
    first | exact True.intro | ((try dsimp only); first | with_reducible assumption | grind [zu_at, zu_atL, zvn] | ((repeat' apply And.intro) <;> first | with_reducible assumption | first | lia | grind [zu_at, zu_atL, zvn]))
  refine zw_some ?_
  first | exact True.intro | ((try dsimp only); first | with_reducible assumption | grind [zu_at, zu_atL, zvn] | ((repeat' apply And.intro) <;> first | with_reducible assumption | first | lia | grind [zu_at, zu_atL, zvn]))
set_option maxHeartbeats 4000000 in
set_option maxRecDepth 100000 in
theorem sf_X9_isAnswer (p1 : Int32) (v1_0 : Int32) (f2 : Nat → Int32) (h_v1_0 : 0 ≤ v1_0 ∧ v1_0 ≤ 14) : zw (fn_X9_isAnswer p1 v1_0 f2) (fun r => 0 ≤ r ∧ r ≤ 1 ∧ r ≤ v1_0 ∧ (¬ r = 0 → 0 ≤ p1 ∧ 1 ≤ r ∧ p1 ≤ 13 ∧ p1 < v1_0) ∧ (r = 1 → 0 ≤ p1 ∧ p1 ≤ 13 ∧ 1 ≤ v1_0 ∧ p1 < v1_0) ∧ (¬ r = 1 → r ≤ 0)) := by
  unfold fn_X9_isAnswer
  refine zw_zb0 (sf_X9_hasNumber p1 v1_0 (by first | with_reducible assumption | exact ⟨by with_reducible assumption, by with_reducible assumption⟩ | first | lia | grind [zu_at, zu_atL, zvn])) (fun o_1 ho_1 => ?_)
  obtain ⟨ho_1_0, ho_1_1, ho_1_2, ho_1_3, ho_1_4, ho_1_5⟩ := ho_1
  refine zw_if (fun c1 => ?_) (fun c1 => ?_)
  · refine zw_some ?_
    first | exact True.intro | ((try dsimp only); first | with_reducible assumption | grind [zu_at, zu_atL, zvn] | ((repeat' apply And.intro) <;> first | with_reducible assumption | first | lia | grind [zu_at, zu_atL, zvn]))
  refine zw_zg32 14 (by decide) (by (try dsimp only); first | lia | grind [zu_at, zu_atL, zvn]) ?_
  refine zw_if (fun c2 => ?_) (fun c2 => ?_)
  · refine zw_some ?_
    first | exact True.intro | ((try dsimp only); first | with_reducible assumption | grind [zu_at, zu_atL, zvn] | ((repeat' apply And.intro) <;> first | with_reducible assumption | first | lia | grind [zu_at, zu_atL, zvn]))
  refine zw_some ?_
  first | exact True.intro | ((try dsimp only); first | with_reducible assumption | grind [zu_at, zu_atL, zvn] | ((repeat' apply And.intro) <;> first | with_reducible assumption | first | lia | grind [zu_at, zu_atL, zvn]))
set_option maxHeartbeats 4000000 in
set_option maxRecDepth 100000 in
theorem sf_X0_whyNot (p2 : Int32) (p3 : Int32) (v1_0 : Int32) (f3 : Nat → Int32) (f4 : Nat → Int32) (f6 : Nat → Int32) (f7 : Nat → Int64) (f8 : Nat → Int64) (f10 : Nat → Int64) (v11_0 : Int32) (f12 : Nat → Int32) (f13 : Nat → Int32) (f14 : Nat → Int32) (f15 : Nat → Int32) (f16 : Nat → Int32) (f17 : Nat → Int32) (h_p2 : 0 ≤ p2 ∧ p2 ≤ 13) (h_v1_0 : 0 ≤ v1_0 ∧ v1_0 ≤ 4) (h_f3 : (∀ i : Nat, 0 ≤ f3 i ∧ f3 i ≤ 13)) (h_v11_0 : 0 ≤ v11_0 ∧ v11_0 ≤ 14) : zw (fn_X0_whyNot p2 p3 v1_0 f3 f4 f6 f7 f8 f10 v11_0 f12 f13 f14 f15 f16 f17) (fun r => 0 ≤ r.1 ∧ r.1 ≤ 6) := by
  unfold fn_X0_whyNot
  refine zw_zg32 14 (by decide) (by (try dsimp only); first | lia | grind [zu_at, zu_atL, zvn]) ?_
  refine zw_zg32 14 (by decide) (by (try dsimp only); first | lia | grind [zu_at, zu_atL, zvn]) ?_
  refine zw_zj (fun s_3 => 0 ≤ s_3 ∧ s_3 ≤ 1) (fun s_3 Hj_3 => ?_) (fun j_3 hj_3 => ?_)
  · obtain ⟨Hj_3_0, Hj_3_1⟩ := Hj_3
    refine zw_zb0 (sf_X9_hasFormat p3 v1_0 (by first | with_reducible assumption | exact ⟨by with_reducible assumption, by with_reducible assumption⟩ | ((try clear hj_3); first | lia | grind [zu_at, zu_atL, zvn]))) (fun o_4 ho_4 => ?_)
    obtain ⟨ho_4_0, ho_4_1, ho_4_2, ho_4_3, ho_4_4, ho_4_5⟩ := ho_4
    refine zw_if (fun c1 => ?_) (fun c1 => ?_)
    · refine zw_some ?_
      first | exact True.intro | ((try dsimp only); (repeat' apply And.intro) <;> first | with_reducible assumption | ((try clear hj_3); first | lia | grind [zu_at, zu_atL, zvn]))
    refine zw_if (fun c2 => ?_) (fun c2 => ?_)
    · refine zw_some ?_
      first | exact True.intro | ((try dsimp only); (repeat' apply And.intro) <;> first | with_reducible assumption | ((try clear hj_3); first | lia | grind [zu_at, zu_atL, zvn]))
    refine zw_zg32 14 (by decide) (by (try dsimp only); ((try clear hj_3); first | lia | grind [zu_at, zu_atL, zvn])) ?_
    refine zw_zb0 (sf_X0_readLong ((p2 * 25) + 1) f6 (by first | with_reducible assumption | exact ⟨by with_reducible assumption, by with_reducible assumption⟩ | ((try clear hj_3); first | lia | grind [zu_at, zu_atL, zvn]))) (fun o_11 ho_11 => ?_)
    refine zw_zg32 14 (by decide) (by (try dsimp only); ((try clear hj_3); first | lia | grind [zu_at, zu_atL, zvn])) ?_
    refine zw_zb0 (sf_X0_readLong ((p2 * 25) + 9) f6 (by first | with_reducible assumption | exact ⟨by with_reducible assumption, by with_reducible assumption⟩ | ((try clear hj_3); first | lia | grind [zu_at, zu_atL, zvn]))) (fun o_16 ho_16 => ?_)
    refine zw_zb0 (sf_X0_readLong ((p2 * 25) + 17) f6 (by first | with_reducible assumption | exact ⟨by with_reducible assumption, by with_reducible assumption⟩ | ((try clear hj_3); first | lia | grind [zu_at, zu_atL, zvn]))) (fun o_20 ho_20 => ?_)
    refine zw_zb0 (sf_X6_lowest p2 v11_0 f12 f13 f14 (vp_updL f7 p2.toNatClampNeg o_11) (vp_updL f8 p2.toNatClampNeg o_16) (by first | with_reducible assumption | exact ⟨by with_reducible assumption, by with_reducible assumption⟩ | ((try clear hj_3); first | lia | grind [zu_at, zu_atL, zvn])) (by first | with_reducible assumption | exact ⟨by with_reducible assumption, by with_reducible assumption⟩ | ((try clear hj_3); first | lia | grind [zu_at, zu_atL, zvn]))) (fun o_24 ho_24 => ?_)
    refine zw_ifc (lg_cmp_le _ _) (fun c3 => ?_) (fun c3 => ?_)
    · refine zw_zb0 (sf_X6_highest p2 v11_0 f12 f13 f14 (vp_updL f8 p2.toNatClampNeg o_16) (vp_updL f7 p2.toNatClampNeg o_11) (by first | with_reducible assumption | exact ⟨by with_reducible assumption, by with_reducible assumption⟩ | ((try clear hj_3); first | lia | grind [zu_at, zu_atL, zvn])) (by first | with_reducible assumption | exact ⟨by with_reducible assumption, by with_reducible assumption⟩ | ((try clear hj_3); first | lia | grind [zu_at, zu_atL, zvn]))) (fun o_29 ho_29 => ?_)
      refine zw_ifc (lg_cmp_ge _ _) (fun c4 => ?_) (fun c4 => ?_)
      · refine zw_zb0 (sf_X7_errorOf p2 v1_0 v11_0 f3 (upd f4 (f3 p2.toNatClampNeg).toNatClampNeg p3) f15 f12 f13 (vp_updL f10 p2.toNatClampNeg o_20) f14 (vp_updL f7 p2.toNatClampNeg o_11) (vp_updL f8 p2.toNatClampNeg o_16) (by first | with_reducible assumption | exact ⟨by with_reducible assumption, by with_reducible assumption⟩ | ((try clear hj_3); first | lia | grind [zu_at, zu_atL, zvn])) (by first | with_reducible assumption | exact ⟨by with_reducible assumption, by with_reducible assumption⟩ | ((try clear hj_3); first | lia | grind [zu_at, zu_atL, zvn])) (by first | with_reducible assumption | exact ⟨by with_reducible assumption, by with_reducible assumption⟩ | ((try clear hj_3); first | lia | grind [zu_at, zu_atL, zvn])) (by first | with_reducible assumption | exact ⟨by with_reducible assumption, by with_reducible assumption⟩ | ((try clear hj_3); first | lia | grind [zu_at, zu_atL, zvn]))) (fun o_34 ho_34 => ?_)
        refine zw_ifc (lg_cmp_ge _ _) (fun c5 => ?_) (fun c5 => ?_)
        · refine zw_zb0 (sf_X6_amountOf p2 (vp_updL f7 p2.toNatClampNeg o_11) (vp_updL f8 p2.toNatClampNeg o_16) (by first | with_reducible assumption | exact ⟨by with_reducible assumption, by with_reducible assumption⟩ | ((try clear hj_3); first | lia | grind [zu_at, zu_atL, zvn]))) (fun o_39 ho_39 => ?_)
          refine zw_zb0 (sf_X9_mostOf p3 v1_0 f16 (by first | with_reducible assumption | exact ⟨by with_reducible assumption, by with_reducible assumption⟩ | ((try clear hj_3); first | lia | grind [zu_at, zu_atL, zvn]))) (fun o_43 ho_43 => ?_)
          refine zw_ifc (lg_cmp_le _ _) (fun c6 => ?_) (fun c6 => ?_)
          · refine zw_zb0 (sf_X9_isAnswer p2 v11_0 f17 (by first | with_reducible assumption | exact ⟨by with_reducible assumption, by with_reducible assumption⟩ | ((try clear hj_3); first | lia | grind [zu_at, zu_atL, zvn]))) (fun o_48 ho_48 => ?_)
            obtain ⟨ho_48_0, ho_48_1, ho_48_2, ho_48_3, ho_48_4, ho_48_5⟩ := ho_48
            refine zw_if (fun c7 => ?_) (fun c7 => ?_)
            · refine zw_some ?_
              first | exact True.intro | ((try dsimp only); (repeat' apply And.intro) <;> first | with_reducible assumption | ((try clear hj_3); first | lia | grind [zu_at, zu_atL, zvn]))
            refine zw_ifc (lg_cmp_le _ _) (fun c8 => ?_) (fun c8 => ?_)
            · refine zw_some ?_
              first | exact True.intro | ((try dsimp only); (repeat' apply And.intro) <;> first | with_reducible assumption | ((try clear hj_3); first | lia | grind [zu_at, zu_atL, zvn]))
            refine zw_some ?_
            first | exact True.intro | ((try dsimp only); (repeat' apply And.intro) <;> first | with_reducible assumption | ((try clear hj_3); first | lia | grind [zu_at, zu_atL, zvn]))
          refine zw_some ?_
          first | exact True.intro | ((try dsimp only); (repeat' apply And.intro) <;> first | with_reducible assumption | ((try clear hj_3); first | lia | grind [zu_at, zu_atL, zvn]))
        refine zw_some ?_
        first | exact True.intro | ((try dsimp only); (repeat' apply And.intro) <;> first | with_reducible assumption | ((try clear hj_3); first | lia | grind [zu_at, zu_atL, zvn]))
      refine zw_some ?_
      first | exact True.intro | ((try dsimp only); (repeat' apply And.intro) <;> first | with_reducible assumption | ((try clear hj_3); first | lia | grind [zu_at, zu_atL, zvn]))
    refine zw_some ?_
    first | exact True.intro | ((try dsimp only); (repeat' apply And.intro) <;> first | with_reducible assumption | ((try clear hj_3); first | lia | grind [zu_at, zu_atL, zvn]))
  refine zw_zj (fun _ => True) (fun s_54 Hj_54 => ?_) (fun j_54 hj_54 => ?_)
  · exact hj_3 _ (by first | exact True.intro | ((try dsimp only); (repeat' apply And.intro) <;> first | with_reducible assumption | ((try clear hj_3); (try clear hj_54); first | lia | grind [zu_at, zu_atL, zvn])))
  refine zw_if (fun c9 => ?_) (fun c9 => ?_)
  · exact hj_54 _ (by first | exact True.intro | ((try dsimp only); (repeat' apply And.intro) <;> first | with_reducible assumption | ((try clear hj_3); (try clear hj_54); first | lia | grind [zu_at, zu_atL, zvn])))
  refine zw_if (fun c10 => ?_) (fun c10 => ?_)
  · exact hj_54 _ (by first | exact True.intro | ((try dsimp only); (repeat' apply And.intro) <;> first | with_reducible assumption | ((try clear hj_3); (try clear hj_54); first | lia | grind [zu_at, zu_atL, zvn])))
  exact hj_3 _ (by first | exact True.intro | ((try dsimp only); (repeat' apply And.intro) <;> first | with_reducible assumption | ((try clear hj_3); (try clear hj_54); first | lia | grind [zu_at, zu_atL, zvn])))
set_option maxHeartbeats 4000000 in
set_option maxRecDepth 100000 in
theorem sf_X0_holds (p2 : Int32) (v1_0 : Int32) (v2_0 : Int32) (f3 : Nat → Int32) (v4_0 : Int32) (f5 : Nat → Int32) (f6 : Nat → Int32) (f7 : Nat → Int32) (f9 : Nat → Int64) (f10 : Nat → Int64) (f12 : Nat → Int64) (f13 : Nat → Int32) (f14 : Nat → Int32) (f15 : Nat → Int32) (f16 : Nat → Int32) (f17 : Nat → Int32) (f18 : Nat → Int32) (h_v1_0 : 0 ≤ v1_0 ∧ v1_0 ≤ 4) (h_v2_0 : 0 ≤ v2_0 ∧ v2_0 ≤ 14) (h_v4_0 : 0 ≤ v4_0 ∧ v4_0 ≤ 14) (h_f7 : (∀ i : Nat, 0 ≤ f7 i ∧ f7 i ≤ 13)) : zw (fn_X0_holds p2 v1_0 v2_0 f3 v4_0 f5 f6 f7 f9 f10 f12 f13 f14 f15 f16 f17 f18) (fun r => 0 ≤ r.1 ∧ r.1 ≤ 1 ∧ (-2) ≤ r.2.1 ∧ (-1) ≤ r.2.2.1 ∧ r.2.1 ≤ 13 ∧ r.2.2.1 ≤ 6) := by
  unfold fn_X0_holds
  refine zw_zb0 (sf_X0_forget) (fun o_1 ho_1 => ?_)
  obtain ⟨o_1_0, o_1_1⟩ := o_1
  try dsimp only at ho_1
  obtain ⟨ho_1_0, ho_1_1, ho_1_2, ho_1_3⟩ := ho_1
  refine zw_if (fun c1 => ?_) (fun c1 => ?_)
  · refine zw_some ?_
    first | exact True.intro | ((try dsimp only); (repeat' apply And.intro) <;> first | with_reducible assumption | first | lia | grind [zu_at, zu_atL, zvn])
  refine zw_if (fun c2 => ?_) (fun c2 => ?_)
  · refine zw_if (fun c3 => ?_) (fun c3 => ?_)
    · refine zw_zb0 (sf_X2_fillFree (-1) v4_0 f5 f6 (by first | with_reducible assumption | exact ⟨by with_reducible assumption, by with_reducible assumption⟩ | first | lia | grind [zu_at, zu_atL, zvn])) (fun o_8 ho_8 => ?_)
      refine zw_zl32 (fun s_12 => 0 ≤ s_12.1 ∧ s_12.1 ≤ 14 ∧ s_12.1 ≤ v2_0) (fun s_12 => 14 - s_12.1) (by (try dsimp only); (repeat' apply And.intro) <;> first | with_reducible assumption | first | lia | grind [zu_at, zu_atL, zvn]) (by (try dsimp only); first | lia | grind [zu_at, zu_atL, zvn]) (fun s_12 back_12 Hback_12 hback_12 => ?_)
      obtain ⟨s_12_0, s_12_1, s_12_2, s_12_3, s_12_4⟩ := s_12
      try dsimp only at Hback_12 hback_12
      obtain ⟨Hback_12_0, Hback_12_1, Hback_12_2⟩ := Hback_12
      refine zw_if (fun c4 => ?_) (fun c4 => ?_)
      · refine zw_some ?_
        first | exact True.intro | ((try dsimp only); (repeat' apply And.intro) <;> first | with_reducible assumption | ((try clear hback_12); first | lia | grind [zu_at, zu_atL, zvn]))
      refine zw_zg32 1200 (by decide) (by (try dsimp only); ((try clear hback_12); first | lia | grind [zu_at, zu_atL, zvn])) ?_
      refine zw_zb0 (sf_X0_whyNot s_12_0 ((f3 (s_12_0 * 25).toNatClampNeg) &&& 255) v1_0 f7 s_12_1 f3 s_12_3 s_12_4 s_12_2 v2_0 f13 f14 f15 f16 f17 f18 (by first | with_reducible assumption | exact ⟨by with_reducible assumption, by with_reducible assumption⟩ | ((try clear hback_12); first | lia | grind [zu_at, zu_atL, zvn])) (by first | with_reducible assumption | exact ⟨by with_reducible assumption, by with_reducible assumption⟩ | ((try clear hback_12); first | lia | grind [zu_at, zu_atL, zvn])) (by first | with_reducible assumption | exact ⟨by with_reducible assumption, by with_reducible assumption⟩ | ((try clear hback_12); first | lia | grind [zu_at, zu_atL, zvn])) (by first | with_reducible assumption | exact ⟨by with_reducible assumption, by with_reducible assumption⟩ | ((try clear hback_12); first | lia | grind [zu_at, zu_atL, zvn]))) (fun o_15 ho_15 => ?_)
      obtain ⟨o_15_0, o_15_1, o_15_2, o_15_3, o_15_4⟩ := o_15
      try dsimp only at ho_15
      obtain ⟨ho_15_0, ho_15_1⟩ := ho_15
      refine zw_if (fun c5 => ?_) (fun c5 => ?_)
      · exact hback_12 _ (by (try dsimp only); (repeat' apply And.intro) <;> first | with_reducible assumption | ((try clear hback_12); first | lia | grind [zu_at, zu_atL, zvn])) (by (try dsimp only); ((try clear hback_12); first | lia | grind [zu_at, zu_atL, zvn])) (by (try dsimp only); ((try clear hback_12); first | lia | grind [zu_at, zu_atL, zvn]))
      refine zw_some ?_
      first | exact True.intro | ((try dsimp only); (repeat' apply And.intro) <;> first | with_reducible assumption | ((try clear hback_12); first | lia | grind [zu_at, zu_atL, zvn]))
    refine zw_some ?_
    first | exact True.intro | ((try dsimp only); (repeat' apply And.intro) <;> first | with_reducible assumption | ((try clear hback_12); first | lia | grind [zu_at, zu_atL, zvn]))
  refine zw_some ?_
  first | exact True.intro | ((try dsimp only); (repeat' apply And.intro) <;> first | with_reducible assumption | ((try clear hback_12); first | lia | grind [zu_at, zu_atL, zvn]))
set_option maxHeartbeats 4000000 in
set_option maxRecDepth 100000 in
theorem sf_X1_forget  : zw (fn_X1_forget) (fun r => 0 ≤ r.1 ∧ r.1 ≤ 1 ∧ (-1) ≤ r.2 ∧ r.1 ≤ 0 ∧ r.2 ≤ (-1)) := by
  unfold fn_X1_forget
  refine zw_some ?_
  first | exact True.intro | ((try dsimp only); (repeat' apply And.intro) <;> first | with_reducible assumption | first | lia | grind [zu_at, zu_atL, zvn])
set_option maxHeartbeats 4000000 in
set_option maxRecDepth 100000 in
theorem sf_X9_hasChoice (v1_0 : Int32) (v2_2 : Int32) (h_v1_0 : 0 ≤ v1_0 ∧ v1_0 ≤ 14) (h_v2_2 : 0 ≤ v2_2 ∧ v2_2 ≤ 1) : zw (fn_X9_hasChoice v1_0 v2_2) (fun r => 0 ≤ r ∧ r ≤ 1 ∧ r ≤ v1_0 ∧ (r = 0 → r ≤ v2_2) ∧ (¬ r = 0 → 1 ≤ r ∧ v2_2 ≤ 0) ∧ (r = 1 → 1 ≤ v1_0 ∧ v2_2 ≤ 0 ∧ v2_2 < r) ∧ (¬ r = 1 → r ≤ 0)) := by
  unfold fn_X9_hasChoice
  refine zw_if (fun c1 => ?_) (fun c1 => ?_)
  · refine zw_some ?_
    first | exact True.intro | ((try dsimp only); first | with_reducible assumption | grind [zu_at, zu_atL, zvn] | ((repeat' apply And.intro) <;> first | with_reducible assumption | first | lia | grind [zu_at, zu_atL, zvn]))
  refine zw_if (fun c2 => ?_) (fun c2 => ?_)
  · refine zw_some ?_
    first | exact True.intro | ((try dsimp only); first | with_reducible assumption | grind [zu_at, zu_atL, zvn] | ((repeat' apply And.intro) <;> first | with_reducible assumption | first | lia | grind [zu_at, zu_atL, zvn]))
  refine zw_some ?_
  first | exact True.intro | ((try dsimp only); first | with_reducible assumption | grind [zu_at, zu_atL, zvn] | ((repeat' apply And.intro) <;> first | with_reducible assumption | first | lia | grind [zu_at, zu_atL, zvn]))
set_option maxHeartbeats 4000000 in
set_option maxRecDepth 100000 in
theorem sf_X4_countAnswers (p1 : Int32) (v0_0 : Int32) (f1 : Nat → Int32) (h_v0_0 : 0 ≤ v0_0 ∧ v0_0 ≤ 14) : zw (fn_X4_countAnswers p1 v0_0 f1) (fun r => 0 ≤ r ∧ r ≤ 14 ∧ r ≤ v0_0) := by
  unfold fn_X4_countAnswers
  refine zw_zl32 (fun s_1 => 0 ≤ s_1.1 ∧ 0 ≤ s_1.2 ∧ s_1.1 ≤ 14 ∧ s_1.2 ≤ 14 ∧ s_1.1 ≤ v0_0 ∧ s_1.2 ≤ v0_0 ∧ s_1.1 ≤ s_1.2) (fun s_1 => 14 - s_1.2) (by (try dsimp only); (repeat' apply And.intro) <;> first | with_reducible assumption | first | lia | grind [zu_at, zu_atL, zvn]) (by (try dsimp only); first | lia | grind [zu_at, zu_atL, zvn]) (fun s_1 back_1 Hback_1 hback_1 => ?_)
  obtain ⟨s_1_0, s_1_1⟩ := s_1
  try dsimp only at Hback_1 hback_1
  obtain ⟨Hback_1_0, Hback_1_1, Hback_1_2, Hback_1_3, Hback_1_4, Hback_1_5, Hback_1_6⟩ := Hback_1
  refine zw_if (fun c1 => ?_) (fun c1 => ?_)
  · refine zw_some ?_
    first | exact True.intro | ((try dsimp only); (repeat' apply And.intro) <;> first | with_reducible assumption | ((try clear hback_1); first | lia | grind [zu_at, zu_atL, zvn]))
  refine zw_if (fun c2 => ?_) (fun c2 => ?_)
  · refine zw_some ?_
    first | exact True.intro | ((try dsimp only); (repeat' apply And.intro) <;> first | with_reducible assumption | ((try clear hback_1); first | lia | grind [zu_at, zu_atL, zvn]))
  refine zw_zg32 14 (by decide) (by (try dsimp only); ((try clear hback_1); first | lia | grind [zu_at, zu_atL, zvn])) ?_
  refine zw_if (fun c3 => ?_) (fun c3 => ?_)
  · exact hback_1 _ (by (try dsimp only); (repeat' apply And.intro) <;> first | with_reducible assumption | ((try clear hback_1); first | lia | grind [zu_at, zu_atL, zvn])) (by (try dsimp only); ((try clear hback_1); first | lia | grind [zu_at, zu_atL, zvn])) (by (try dsimp only); ((try clear hback_1); first | lia | grind [zu_at, zu_atL, zvn]))
  exact hback_1 _ (by (try dsimp only); (repeat' apply And.intro) <;> first | with_reducible assumption | ((try clear hback_1); first | lia | grind [zu_at, zu_atL, zvn])) (by (try dsimp only); ((try clear hback_1); first | lia | grind [zu_at, zu_atL, zvn])) (by (try dsimp only); ((try clear hback_1); first | lia | grind [zu_at, zu_atL, zvn]))
set_option maxHeartbeats 4000000 in
set_option maxRecDepth 100000 in
theorem sf_X1_makeRoom (p1 : Int32) (v0_3 : Int32) (n1 : Nat) (f1 : Nat → Int32) (n2 : Nat) (f2 : Nat → Int32) (n3 : Nat) (f3 : Nat → Int32) (n4 : Nat) (f4 : Nat → Int32) (n5 : Nat) (f5 : Nat → Int32) (h_p1 : 0 ≤ p1 ∧ p1 ≤ 1024) (h_v0_3 : 0 ≤ v0_3 ∧ v0_3 ≤ 14) (h_n1 : n1 ≤ 1024) (hN_n1 : 0 ≤ Int32.ofNat n1 ∧ Int32.ofNat n1 ≤ 1024) (h_n2 : n2 ≤ 14336) (hN_n2 : 0 ≤ Int32.ofNat n2 ∧ Int32.ofNat n2 ≤ 14336) (h_n3 : n3 ≤ 1024) (hN_n3 : 0 ≤ Int32.ofNat n3 ∧ Int32.ofNat n3 ≤ 1024) (h_n4 : n4 ≤ 1024) (hN_n4 : 0 ≤ Int32.ofNat n4 ∧ Int32.ofNat n4 ≤ 1024) (h_n5 : n5 ≤ 1024) (hN_n5 : 0 ≤ Int32.ofNat n5 ∧ Int32.ofNat n5 ≤ 1024) (hr_0 : (Int32.ofNat n1) ≤ (Int32.ofNat n4)) (hr_1 : (Int32.ofNat n1) ≤ (Int32.ofNat n3)) (hr_2 : (Int32.ofNat n1) ≤ (Int32.ofNat n5)) (hr_3 : (Int32.ofNat n4) ≤ (Int32.ofNat n1)) (hr_4 : (Int32.ofNat n3) ≤ (Int32.ofNat n1)) (hr_5 : (Int32.ofNat n5) ≤ (Int32.ofNat n1)) : zw (fn_X1_makeRoom p1 v0_3 n1 f1 n2 f2 n3 f3 n4 f4 n5 f5) (fun r => r.2.1 ≤ 1024 ∧ 0 ≤ Int32.ofNat r.2.1 ∧ Int32.ofNat r.2.1 ≤ 1024 ∧ r.2.2.2.1 ≤ 14336 ∧ 0 ≤ Int32.ofNat r.2.2.2.1 ∧ Int32.ofNat r.2.2.2.1 ≤ 14336 ∧ r.2.2.2.2.2.1 ≤ 1024 ∧ 0 ≤ Int32.ofNat r.2.2.2.2.2.1 ∧ Int32.ofNat r.2.2.2.2.2.1 ≤ 1024 ∧ r.2.2.2.2.2.2.2.1 ≤ 1024 ∧ 0 ≤ Int32.ofNat r.2.2.2.2.2.2.2.1 ∧ Int32.ofNat r.2.2.2.2.2.2.2.1 ≤ 1024 ∧ r.2.2.2.2.2.2.2.2.2 ≤ 1024 ∧ 0 ≤ Int32.ofNat r.2.2.2.2.2.2.2.2.2 ∧ Int32.ofNat r.2.2.2.2.2.2.2.2.2 ≤ 1024 ∧ (Int32.ofNat r.2.1) ≤ (Int32.ofNat r.2.2.2.2.2.2.2.1) ∧ (Int32.ofNat r.2.1) ≤ (Int32.ofNat r.2.2.2.2.2.1) ∧ (Int32.ofNat r.2.1) ≤ (Int32.ofNat r.2.2.2.2.2.2.2.2.2) ∧ (Int32.ofNat r.2.2.2.2.2.2.2.1) ≤ (Int32.ofNat r.2.1) ∧ (Int32.ofNat r.2.2.2.2.2.1) ≤ (Int32.ofNat r.2.1) ∧ (Int32.ofNat r.2.2.2.2.2.2.2.2.2) ≤ (Int32.ofNat r.2.1) ∧ (Int32.ofNat n1) ≤ (Int32.ofNat r.2.1)) := by
  unfold fn_X1_makeRoom
  refine zw_if (fun c1 => ?_) (fun c1 => ?_)
  · refine zw_if (fun c2 => ?_) (fun c2 => ?_)
    · refine zw_some ?_
      first | exact True.intro | ((try dsimp only); (repeat' apply And.intro) <;> first | with_reducible assumption | first | lia | grind [zu_at, zu_atL, zvn, zmul14, zofn', zcl1024, zcl14336])
    refine zw_za32 14336 (by decide) (by (try dsimp only); first | lia | grind [zu_at, zu_atL, zvn, zmul14, zofn', zcl1024, zcl14336]) ?_
    refine zw_some ?_
    first | exact True.intro | ((try dsimp only); (repeat' apply And.intro) <;> first | with_reducible assumption | first | lia | grind [zu_at, zu_atL, zvn, zmul14, zofn', zcl1024, zcl14336])
  refine zw_za32 1024 (by decide) (by (try dsimp only); first | lia | grind [zu_at, zu_atL, zvn, zmul14, zofn', zcl1024, zcl14336]) ?_
  refine zw_za32 1024 (by decide) (by (try dsimp only); first | lia | grind [zu_at, zu_atL, zvn, zmul14, zofn', zcl1024, zcl14336]) ?_
  refine zw_za32 1024 (by decide) (by (try dsimp only); first | lia | grind [zu_at, zu_atL, zvn, zmul14, zofn', zcl1024, zcl14336]) ?_
  refine zw_za32 1024 (by decide) (by (try dsimp only); first | lia | grind [zu_at, zu_atL, zvn, zmul14, zofn', zcl1024, zcl14336]) ?_
  refine zw_if (fun c3 => ?_) (fun c3 => ?_)
  · refine zw_some ?_
    first | exact True.intro | ((try dsimp only); (repeat' apply And.intro) <;> first | with_reducible assumption | first | lia | grind [zu_at, zu_atL, zvn, zmul14, zofn', zcl1024, zcl14336])
  refine zw_za32 14336 (by decide) (by (try dsimp only); first | lia | grind [zu_at, zu_atL, zvn, zmul14, zofn', zcl1024, zcl14336]) ?_
  refine zw_some ?_
  first | exact True.intro | ((try dsimp only); (repeat' apply And.intro) <;> first | with_reducible assumption | first | lia | grind [zu_at, zu_atL, zvn, zmul14, zofn', zcl1024, zcl14336])
set_option maxHeartbeats 4000000 in
set_option maxRecDepth 100000 in
theorem sf_X1_unfold (p1 : Int32) (v0_0 : Int32) (v1_0 : Int32) (f2 : Nat → Int32) (f3 : Nat → Int32) (h_v0_0 : 0 ≤ v0_0 ∧ v0_0 ≤ 4) (h_v1_0 : 0 ≤ v1_0 ∧ v1_0 ≤ 14) : zw (fn_X1_unfold p1 v0_0 v1_0 f2 f3) (fun r => True) := by
  unfold fn_X1_unfold
  refine zw_zl32 (fun s_1 => (-1) ≤ s_1.2.1 ∧ s_1.2.1 ≤ 13 ∧ s_1.2.1 < v1_0) (fun s_1 => s_1.2.1 - (-1)) (by (try dsimp only); (repeat' apply And.intro) <;> first | with_reducible assumption | first | lia | grind [zu_at, zu_atL, zvn]) (by (try dsimp only); first | lia | grind [zu_at, zu_atL, zvn]) (fun s_1 back_1 Hback_1 hback_1 => ?_)
  obtain ⟨s_1_0, s_1_1, s_1_2⟩ := s_1
  try dsimp only at Hback_1 hback_1
  obtain ⟨Hback_1_0, Hback_1_1, Hback_1_2⟩ := Hback_1
  refine zw_if (fun c1 => ?_) (fun c1 => ?_)
  · refine zw_some ?_
    first | exact True.intro | ((try dsimp only); (repeat' apply And.intro) <;> first | with_reducible assumption | ((try clear hback_1); first | lia | grind [zu_at, zu_atL, zvn]))
  refine zw_zg32 14 (by decide) (by (try dsimp only); ((try clear hback_1); first | lia | grind [zu_at, zu_atL, zvn])) ?_
  refine zw_zn1 ?_
  refine zw_if (fun c2 => ?_) (fun c2 => ?_)
  · refine zw_if (fun c3 => ?_) (fun c3 => ?_)
    · exact hback_1 _ (by (try dsimp only); (repeat' apply And.intro) <;> first | with_reducible assumption | ((try clear hback_1); first | lia | grind [zu_at, zu_atL, zvn])) (by (try dsimp only); ((try clear hback_1); first | lia | grind [zu_at, zu_atL, zvn])) (by (try dsimp only); ((try clear hback_1); first | lia | grind [zu_at, zu_atL, zvn]))
    refine zw_zd (by (try dsimp only); ((try clear hback_1); first | lia | grind [zu_at, zu_atL, zvn])) ?_
    refine zw_zn1 ?_
    refine zw_zd (by (try dsimp only); ((try clear hback_1); first | lia | grind [zu_at, zu_atL, zvn])) ?_
    exact hback_1 _ (by (try dsimp only); (repeat' apply And.intro) <;> first | with_reducible assumption | ((try clear hback_1); first | lia | grind [zu_at, zu_atL, zvn])) (by (try dsimp only); ((try clear hback_1); first | lia | grind [zu_at, zu_atL, zvn])) (by (try dsimp only); ((try clear hback_1); first | lia | grind [zu_at, zu_atL, zvn]))
  exact hback_1 _ (by (try dsimp only); (repeat' apply And.intro) <;> first | with_reducible assumption | ((try clear hback_1); first | lia | grind [zu_at, zu_atL, zvn])) (by (try dsimp only); ((try clear hback_1); first | lia | grind [zu_at, zu_atL, zvn])) (by (try dsimp only); ((try clear hback_1); first | lia | grind [zu_at, zu_atL, zvn]))
set_option maxHeartbeats 4000000 in
set_option maxRecDepth 100000 in
theorem sf_X7_reckon (v1_0 : Int32) (v2_0 : Int32) (f4 : Nat → Int32) (f5 : Nat → Int32) (f6 : Nat → Int32) (f7 : Nat → Int32) (f8 : Nat → Int32) (f9 : Nat → Int64) (f10 : Nat → Int32) (f12 : Nat → Int64) (f13 : Nat → Int64) (f14 : Nat → Int32) (f15 : Nat → Int32) (h_v1_0 : 0 ≤ v1_0 ∧ v1_0 ≤ 4) (h_v2_0 : 0 ≤ v2_0 ∧ v2_0 ≤ 14) (h_f4 : (∀ i : Nat, 0 ≤ f4 i ∧ f4 i ≤ 13)) : zw (fn_X7_reckon v1_0 v2_0 f4 f5 f6 f7 f8 f9 f10 f12 f13 f14 f15) (fun r => 0 ≤ r.1 ∧ r.1 ≤ 1 ∧ (-2) ≤ r.2.1 ∧ 0 ≤ r.2.2.1 ∧ r.2.1 ≤ 13 ∧ r.2.2.1 ≤ 2 ∧ r.2.1 < v2_0 ∧ r.2.2.1 ≤ r.2.1 + 2 ∧ (r.1 = 1 → r.2.1 ≤ (-2) ∧ r.2.2.1 < r.1) ∧ (¬ r.1 = 1 → 0 ≤ r.2.1 ∧ 1 ≤ r.2.2.1 ∧ r.1 ≤ 0) ∧ (r.1 = 0 → 0 ≤ r.2.1 ∧ 1 ≤ r.2.2.1 ∧ r.1 ≤ r.2.1 ∧ r.1 < r.2.2.1 ∧ r.1 ≤ v1_0) ∧ (¬ r.1 = 0 → 1 ≤ r.1 ∧ r.2.1 ≤ (-2))) := by
  unfold fn_X7_reckon
  refine zw_zl32 (fun s_1 => 0 ≤ s_1.1 ∧ s_1.1 ≤ 14 ∧ 0 ≤ s_1.2.1 ∧ s_1.2.1 ≤ 0 ∧ s_1.1 ≤ v2_0) (fun s_1 => 14 - s_1.1) (by (try dsimp only); (repeat' apply And.intro) <;> first | with_reducible assumption | first | lia | grind [zu_at, zu_atL, zvn]) (by (try dsimp only); first | lia | grind [zu_at, zu_atL, zvn]) (fun s_1 back_1 Hback_1 hback_1 => ?_)
  obtain ⟨s_1_0, s_1_1, s_1_2⟩ := s_1
  try dsimp only at Hback_1 hback_1
  obtain ⟨Hback_1_0, Hback_1_1, Hback_1_2, Hback_1_3, Hback_1_4⟩ := Hback_1
  refine zw_if (fun c1 => ?_) (fun c1 => ?_)
  · refine zw_some ?_
    first | exact True.intro | ((try dsimp only); (repeat' apply And.intro) <;> first | with_reducible assumption | ((try clear hback_1); first | lia | grind [zu_at, zu_atL, zvn]))
  refine zw_zb0 (sf_X7_errorOf s_1_0 v1_0 v2_0 f4 f5 f6 f7 f8 s_1_2 f10 f12 f13 (by first | with_reducible assumption | exact ⟨by with_reducible assumption, by with_reducible assumption⟩ | ((try clear hback_1); first | lia | grind [zu_at, zu_atL, zvn])) (by first | with_reducible assumption | exact ⟨by with_reducible assumption, by with_reducible assumption⟩ | ((try clear hback_1); first | lia | grind [zu_at, zu_atL, zvn])) (by first | with_reducible assumption | exact ⟨by with_reducible assumption, by with_reducible assumption⟩ | ((try clear hback_1); first | lia | grind [zu_at, zu_atL, zvn])) (by first | with_reducible assumption | exact ⟨by with_reducible assumption, by with_reducible assumption⟩ | ((try clear hback_1); first | lia | grind [zu_at, zu_atL, zvn]))) (fun o_3 ho_3 => ?_)
  refine zw_zg32 14 (by decide) (by (try dsimp only); ((try clear hback_1); first | lia | grind [zu_at, zu_atL, zvn])) ?_
  refine zw_zb0 (sf_X9_formatOf s_1_0 v2_0 f4 f5 (by first | with_reducible assumption | exact ⟨by with_reducible assumption, by with_reducible assumption⟩ | ((try clear hback_1); first | lia | grind [zu_at, zu_atL, zvn])) (by first | with_reducible assumption | exact ⟨by with_reducible assumption, by with_reducible assumption⟩ | ((try clear hback_1); first | lia | grind [zu_at, zu_atL, zvn]))) (fun o_8 ho_8 => ?_)
  refine zw_zb0 (sf_X9_mostOf o_8 v1_0 f14 (by first | with_reducible assumption | exact ⟨by with_reducible assumption, by with_reducible assumption⟩ | ((try clear hback_1); first | lia | grind [zu_at, zu_atL, zvn]))) (fun o_12 ho_12 => ?_)
  refine zw_zb0 (sf_X6_amountOf s_1_0 f12 f13 (by first | with_reducible assumption | exact ⟨by with_reducible assumption, by with_reducible assumption⟩ | ((try clear hback_1); first | lia | grind [zu_at, zu_atL, zvn]))) (fun o_16 ho_16 => ?_)
  refine zw_zn (fun x_20 ex_20 => ?_)
  refine zw_zj (fun s_21 => 0 ≤ s_21 ∧ s_21 ≤ 2) (fun s_21 Hj_21 => ?_) (fun j_21 hj_21 => ?_)
  · obtain ⟨Hj_21_0, Hj_21_1⟩ := Hj_21
    refine zw_if (fun c2 => ?_) (fun c2 => ?_)
    · exact hback_1 _ (by (try dsimp only); (repeat' apply And.intro) <;> first | with_reducible assumption | ((try clear hback_1); (try clear hj_21); first | lia | grind [zu_at, zu_atL, zvn])) (by (try dsimp only); ((try clear hback_1); (try clear hj_21); first | lia | grind [zu_at, zu_atL, zvn])) (by (try dsimp only); ((try clear hback_1); (try clear hj_21); first | lia | grind [zu_at, zu_atL, zvn]))
    refine zw_some ?_
    first | exact True.intro | ((try dsimp only); (repeat' apply And.intro) <;> first | with_reducible assumption | ((try clear hback_1); (try clear hj_21); first | lia | grind [zu_at, zu_atL, zvn]))
  refine zw_ifc (lg_cmp_le _ _) (fun c3 => ?_) (fun c3 => ?_)
  · refine zw_zb0 (sf_X9_isAnswer s_1_0 v2_0 f15 (by first | with_reducible assumption | exact ⟨by with_reducible assumption, by with_reducible assumption⟩ | ((try clear hback_1); (try clear hj_21); first | lia | grind [zu_at, zu_atL, zvn]))) (fun o_24 ho_24 => ?_)
    obtain ⟨ho_24_0, ho_24_1, ho_24_2, ho_24_3, ho_24_4, ho_24_5⟩ := ho_24
    refine zw_if (fun c4 => ?_) (fun c4 => ?_)
    · exact hj_21 _ (by first | exact True.intro | ((try dsimp only); (repeat' apply And.intro) <;> first | with_reducible assumption | ((try clear hback_1); (try clear hj_21); first | lia | grind [zu_at, zu_atL, zvn])))
    refine zw_ifc (lg_cmp_le _ _) (fun c5 => ?_) (fun c5 => ?_)
    · exact hj_21 _ (by first | exact True.intro | ((try dsimp only); (repeat' apply And.intro) <;> first | with_reducible assumption | ((try clear hback_1); (try clear hj_21); first | lia | grind [zu_at, zu_atL, zvn])))
    exact hj_21 _ (by first | exact True.intro | ((try dsimp only); (repeat' apply And.intro) <;> first | with_reducible assumption | ((try clear hback_1); (try clear hj_21); first | lia | grind [zu_at, zu_atL, zvn])))
  exact hj_21 _ (by first | exact True.intro | ((try dsimp only); (repeat' apply And.intro) <;> first | with_reducible assumption | ((try clear hback_1); (try clear hj_21); first | lia | grind [zu_at, zu_atL, zvn])))
set_option maxHeartbeats 4000000 in
set_option maxRecDepth 100000 in
theorem sf_X9_castsOf (v1_0 : Int32) (f2 : Nat → Int32) (f4 : Nat → Int32) (f5 : Nat → Int32) (h_v1_0 : 0 ≤ v1_0 ∧ v1_0 ≤ 14) (h_f4 : (∀ i : Nat, 0 ≤ f4 i ∧ f4 i ≤ 13)) : zw (fn_X9_castsOf v1_0 f2 f4 f5) (fun r => True) := by
  unfold fn_X9_castsOf
  refine zw_zl32 (fun s_1 => 0 ≤ s_1.2 ∧ s_1.2 ≤ 14 ∧ s_1.2 ≤ v1_0) (fun s_1 => 14 - s_1.2) (by (try dsimp only); first | with_reducible assumption | grind [zu_at, zu_atL, zvn] | ((repeat' apply And.intro) <;> first | with_reducible assumption | first | lia | grind [zu_at, zu_atL, zvn])) (by (try dsimp only); first | lia | grind [zu_at, zu_atL, zvn]) (fun s_1 back_1 Hback_1 hback_1 => ?_)
  obtain ⟨s_1_0, s_1_1⟩ := s_1
  try dsimp only at Hback_1 hback_1
  obtain ⟨Hback_1_0, Hback_1_1, Hback_1_2⟩ := Hback_1
  refine zw_if (fun c1 => ?_) (fun c1 => ?_)
  · refine zw_some ?_
    first | exact True.intro | ((try dsimp only); first | with_reducible assumption | grind [zu_at, zu_atL, zvn] | ((repeat' apply And.intro) <;> first | with_reducible assumption | ((try clear hback_1); first | lia | grind [zu_at, zu_atL, zvn])))
  refine zw_zl32 (fun s_3 => 0 ≤ s_3.2 ∧ s_3.2 ≤ 2) (fun s_3 => 2 - s_3.2) (by (try dsimp only); first | with_reducible assumption | grind [zu_at, zu_atL, zvn] | ((repeat' apply And.intro) <;> first | with_reducible assumption | ((try clear hback_1); first | lia | grind [zu_at, zu_atL, zvn]))) (by (try dsimp only); ((try clear hback_1); first | lia | grind [zu_at, zu_atL, zvn])) (fun s_3 back_3 Hback_3 hback_3 => ?_)
  obtain ⟨s_3_0, s_3_1⟩ := s_3
  try dsimp only at Hback_3 hback_3
  obtain ⟨Hback_3_0, Hback_3_1⟩ := Hback_3
  refine zw_if (fun c2 => ?_) (fun c2 => ?_)
  · exact hback_1 _ (by (try dsimp only); first | with_reducible assumption | grind [zu_at, zu_atL, zvn] | ((repeat' apply And.intro) <;> first | with_reducible assumption | ((try clear hback_1); (try clear hback_3); first | lia | grind [zu_at, zu_atL, zvn]))) (by (try dsimp only); ((try clear hback_1); (try clear hback_3); first | lia | grind [zu_at, zu_atL, zvn])) (by (try dsimp only); ((try clear hback_1); (try clear hback_3); first | lia | grind [zu_at, zu_atL, zvn]))
  refine zw_zb0 (sf_X4_madeOf s_1_1 s_3_1 v1_0 f2 (by first | with_reducible assumption | exact ⟨by with_reducible assumption, by with_reducible assumption⟩ | ((try clear hback_1); (try clear hback_3); first | lia | grind [zu_at, zu_atL, zvn]))) (fun o_5 ho_5 => ?_)
  refine zw_if (fun c3 => ?_) (fun c3 => ?_)
  · exact hback_3 _ (by (try dsimp only); first | with_reducible assumption | grind [zu_at, zu_atL, zvn] | ((repeat' apply And.intro) <;> first | with_reducible assumption | ((try clear hback_1); (try clear hback_3); first | lia | grind [zu_at, zu_atL, zvn]))) (by (try dsimp only); ((try clear hback_1); (try clear hback_3); first | lia | grind [zu_at, zu_atL, zvn])) (by (try dsimp only); ((try clear hback_1); (try clear hback_3); first | lia | grind [zu_at, zu_atL, zvn]))
  refine zw_zb0 (sf_X9_formatOf o_5 v1_0 f4 f5 (by first | with_reducible assumption | exact ⟨by with_reducible assumption, by with_reducible assumption⟩ | ((try clear hback_1); (try clear hback_3); first | lia | grind [zu_at, zu_atL, zvn])) (by first | with_reducible assumption | exact ⟨by with_reducible assumption, by with_reducible assumption⟩ | ((try clear hback_1); (try clear hback_3); first | lia | grind [zu_at, zu_atL, zvn]))) (fun o_10 ho_10 => ?_)
  refine zw_zb0 (sf_X9_formatOf s_1_1 v1_0 f4 f5 (by first | with_reducible assumption | exact ⟨by with_reducible assumption, by with_reducible assumption⟩ | ((try clear hback_1); (try clear hback_3); first | lia | grind [zu_at, zu_atL, zvn])) (by first | with_reducible assumption | exact ⟨by with_reducible assumption, by with_reducible assumption⟩ | ((try clear hback_1); (try clear hback_3); first | lia | grind [zu_at, zu_atL, zvn]))) (fun o_14 ho_14 => ?_)
  refine zw_if (fun c4 => ?_) (fun c4 => ?_)
  · exact hback_3 _ (by (try dsimp only); first | with_reducible assumption | grind [zu_at, zu_atL, zvn] | ((repeat' apply And.intro) <;> first | with_reducible assumption | ((try clear hback_1); (try clear hback_3); first | lia | grind [zu_at, zu_atL, zvn]))) (by (try dsimp only); ((try clear hback_1); (try clear hback_3); first | lia | grind [zu_at, zu_atL, zvn])) (by (try dsimp only); ((try clear hback_1); (try clear hback_3); first | lia | grind [zu_at, zu_atL, zvn]))
  exact hback_3 _ (by (try dsimp only); first | with_reducible assumption | grind [zu_at, zu_atL, zvn] | ((repeat' apply And.intro) <;> first | with_reducible assumption | ((try clear hback_1); (try clear hback_3); first | lia | grind [zu_at, zu_atL, zvn]))) (by (try dsimp only); ((try clear hback_1); (try clear hback_3); first | lia | grind [zu_at, zu_atL, zvn])) (by (try dsimp only); ((try clear hback_1); (try clear hback_3); first | lia | grind [zu_at, zu_atL, zvn]))
set_option maxHeartbeats 4000000 in
set_option maxRecDepth 100000 in
theorem sf_X9_priceOf (v0_0 : Int32) (v0_5 : Int32) (v1_0 : Int32) (f2 : Nat → Int32) (f4 : Nat → Int32) (f5 : Nat → Int32) (f6 : Nat → Int32) (h_v0_0 : 0 ≤ v0_0 ∧ v0_0 ≤ 4) (h_v1_0 : 0 ≤ v1_0 ∧ v1_0 ≤ 14) (h_f4 : (∀ i : Nat, 0 ≤ f4 i ∧ f4 i ≤ 13)) : zw (fn_X9_priceOf v0_0 v0_5 v1_0 f2 f4 f5 f6) (fun r => True) := by
  unfold fn_X9_priceOf
  refine zw_zb0 (sf_X9_castsOf v1_0 f2 f4 f5 (by first | with_reducible assumption | exact ⟨by with_reducible assumption, by with_reducible assumption⟩ | first | lia | grind [zu_at, zu_atL, zvn]) (by first | with_reducible assumption | exact ⟨by with_reducible assumption, by with_reducible assumption⟩ | first | lia | grind [zu_at, zu_atL, zvn])) (fun o_1 ho_1 => ?_)
  refine zw_zl32 (fun s_5 => 0 ≤ s_5.2 ∧ s_5.2 ≤ 14 ∧ s_5.2 ≤ v1_0) (fun s_5 => 14 - s_5.2) (by (try dsimp only); first | with_reducible assumption | grind [zu_at, zu_atL, zvn] | ((repeat' apply And.intro) <;> first | with_reducible assumption | first | lia | grind [zu_at, zu_atL, zvn])) (by (try dsimp only); first | lia | grind [zu_at, zu_atL, zvn]) (fun s_5 back_5 Hback_5 hback_5 => ?_)
  obtain ⟨s_5_0, s_5_1⟩ := s_5
  try dsimp only at Hback_5 hback_5
  obtain ⟨Hback_5_0, Hback_5_1, Hback_5_2⟩ := Hback_5
  refine zw_if (fun c1 => ?_) (fun c1 => ?_)
  · refine zw_some ?_
    first | exact True.intro | ((try dsimp only); first | with_reducible assumption | grind [zu_at, zu_atL, zvn] | ((repeat' apply And.intro) <;> first | with_reducible assumption | ((try clear hback_5); first | lia | grind [zu_at, zu_atL, zvn])))
  refine zw_zb0 (sf_X9_formatOf s_5_1 v1_0 f4 f5 (by first | with_reducible assumption | exact ⟨by with_reducible assumption, by with_reducible assumption⟩ | ((try clear hback_5); first | lia | grind [zu_at, zu_atL, zvn])) (by first | with_reducible assumption | exact ⟨by with_reducible assumption, by with_reducible assumption⟩ | ((try clear hback_5); first | lia | grind [zu_at, zu_atL, zvn]))) (fun o_7 ho_7 => ?_)
  refine zw_zb0 (sf_X9_hasFormat o_7 v0_0 (by first | with_reducible assumption | exact ⟨by with_reducible assumption, by with_reducible assumption⟩ | ((try clear hback_5); first | lia | grind [zu_at, zu_atL, zvn]))) (fun o_11 ho_11 => ?_)
  obtain ⟨ho_11_0, ho_11_1, ho_11_2, ho_11_3, ho_11_4, ho_11_5⟩ := ho_11
  refine zw_if (fun c2 => ?_) (fun c2 => ?_)
  · exact hback_5 _ (by (try dsimp only); first | with_reducible assumption | grind [zu_at, zu_atL, zvn] | ((repeat' apply And.intro) <;> first | with_reducible assumption | ((try clear hback_5); first | lia | grind [zu_at, zu_atL, zvn]))) (by (try dsimp only); ((try clear hback_5); first | lia | grind [zu_at, zu_atL, zvn])) (by (try dsimp only); ((try clear hback_5); first | lia | grind [zu_at, zu_atL, zvn]))
  refine zw_zg32 4 (by decide) (by (try dsimp only); ((try clear hback_5); first | lia | grind [zu_at, zu_atL, zvn])) ?_
  exact hback_5 _ (by (try dsimp only); first | with_reducible assumption | grind [zu_at, zu_atL, zvn] | ((repeat' apply And.intro) <;> first | with_reducible assumption | ((try clear hback_5); first | lia | grind [zu_at, zu_atL, zvn]))) (by (try dsimp only); ((try clear hback_5); first | lia | grind [zu_at, zu_atL, zvn])) (by (try dsimp only); ((try clear hback_5); first | lia | grind [zu_at, zu_atL, zvn]))
set_option maxHeartbeats 4000000 in
set_option maxRecDepth 100000 in
theorem sf_X1_keep (p2 : Int32) (p3 : Int32) (v0_3 : Int32) (v0_6 : Int32) (v0_7 : Int32) (v0_8 : Int32) (n1 : Nat) (f1 : Nat → Int32) (v3_0 : Int32) (f4 : Nat → Int32) (n5 : Nat) (f5 : Nat → Int32) (f7 : Nat → Int64) (h_v0_3 : 0 ≤ v0_3 ∧ v0_3 ≤ 14) (h_v0_6 : 0 ≤ v0_6 ∧ v0_6 ≤ 1024) (h_n1 : n1 ≤ 1024) (hN_n1 : 0 ≤ Int32.ofNat n1 ∧ Int32.ofNat n1 ≤ 1024) (h_v3_0 : 0 ≤ v3_0 ∧ v3_0 ≤ 14) (h_n5 : n5 ≤ 14336) (hN_n5 : 0 ≤ Int32.ofNat n5 ∧ Int32.ofNat n5 ≤ 14336) (hr_0 : v0_6 ≤ (Int32.ofNat n1)) : zw (fn_X1_keep p2 p3 v0_3 v0_6 v0_7 v0_8 n1 f1 v3_0 f4 n5 f5 f7) (fun r => 0 ≤ r.1 ∧ r.1 ≤ 1024 ∧ r.1 ≤ (Int32.ofNat n1)) := by
  unfold fn_X1_keep
  refine zw_if (fun c1 => ?_) (fun c1 => ?_)
  · refine zw_zgN (by (try dsimp only); first | lia | grind [zu_at, zu_atL, zvn]) (by (try dsimp only); first | lia | grind [zu_at, zu_atL, zvn]) ?_
    obtain ⟨hm1, hm2⟩ := zmul14 v0_6 v0_3 (by lia) (by lia) (by lia) (by lia)
    refine zw_zl32 (fun s_3 => 0 ≤ s_3.1 ∧ s_3.1 ≤ 14336 ∧ 0 ≤ s_3.2.1 ∧ s_3.2.1 ≤ 14 ∧ s_3.2.1 ≤ v3_0 ∧ (v0_6 * v0_3) ≤ s_3.1) (fun s_3 => 14 - s_3.2.1) (by (try dsimp only); (repeat' apply And.intro) <;> first | with_reducible assumption | first | lia | grind [zu_at, zu_atL, zvn]) (by (try dsimp only); first | lia | grind [zu_at, zu_atL, zvn]) (fun s_3 back_3 Hback_3 hback_3 => ?_)
    obtain ⟨s_3_0, s_3_1, s_3_2⟩ := s_3
    try dsimp only at Hback_3 hback_3
    obtain ⟨Hback_3_0, Hback_3_1, Hback_3_2, Hback_3_3, Hback_3_4, Hback_3_5⟩ := Hback_3
    refine zw_if (fun c2 => ?_) (fun c2 => ?_)
    · refine zw_zj (fun _ => True) (fun s_5 Hj_5 => ?_) (fun j_5 hj_5 => ?_)
      · refine zw_some ?_
        first | exact True.intro | ((try dsimp only); (repeat' apply And.intro) <;> first | with_reducible assumption | ((try clear hback_3); (try clear hj_5); first | lia | grind [zu_at, zu_atL, zvn]))
      refine zw_if (fun c3 => ?_) (fun c3 => ?_)
      · exact hj_5 _ (by first | exact True.intro | ((try dsimp only); (repeat' apply And.intro) <;> first | with_reducible assumption | ((try clear hback_3); (try clear hj_5); first | lia | grind [zu_at, zu_atL, zvn])))
      refine zw_if (fun c4 => ?_) (fun c4 => ?_)
      · refine zw_some ?_
        first | exact True.intro | ((try dsimp only); (repeat' apply And.intro) <;> first | with_reducible assumption | ((try clear hback_3); (try clear hj_5); first | lia | grind [zu_at, zu_atL, zvn]))
      exact hj_5 _ (by first | exact True.intro | ((try dsimp only); (repeat' apply And.intro) <;> first | with_reducible assumption | ((try clear hback_3); (try clear hj_5); first | lia | grind [zu_at, zu_atL, zvn])))
    refine zw_zb0 (sf_X9_isAnswer s_3_1 v3_0 f4 (by first | with_reducible assumption | exact ⟨by with_reducible assumption, by with_reducible assumption⟩ | ((try clear hback_3); (try clear hj_5); first | lia | grind [zu_at, zu_atL, zvn]))) (fun o_8 ho_8 => ?_)
    obtain ⟨ho_8_0, ho_8_1, ho_8_2, ho_8_3, ho_8_4, ho_8_5⟩ := ho_8
    refine zw_if (fun c5 => ?_) (fun c5 => ?_)
    · exact hback_3 _ (by (try dsimp only); (repeat' apply And.intro) <;> first | with_reducible assumption | ((try clear hback_3); (try clear hj_5); first | lia | grind [zu_at, zu_atL, zvn])) (by (try dsimp only); ((try clear hback_3); (try clear hj_5); first | lia | grind [zu_at, zu_atL, zvn])) (by (try dsimp only); ((try clear hback_3); (try clear hj_5); first | lia | grind [zu_at, zu_atL, zvn]))
    refine zw_if (fun c6 => ?_) (fun c6 => ?_)
    · exact hback_3 _ (by (try dsimp only); (repeat' apply And.intro) <;> first | with_reducible assumption | ((try clear hback_3); (try clear hj_5); first | lia | grind [zu_at, zu_atL, zvn])) (by (try dsimp only); ((try clear hback_3); (try clear hj_5); first | lia | grind [zu_at, zu_atL, zvn])) (by (try dsimp only); ((try clear hback_3); (try clear hj_5); first | lia | grind [zu_at, zu_atL, zvn]))
    refine zw_zg32 14 (by decide) (by (try dsimp only); ((try clear hback_3); (try clear hj_5); first | lia | grind [zu_at, zu_atL, zvn])) ?_
    refine zw_zgN (by (try dsimp only); ((try clear hback_3); (try clear hj_5); first | lia | grind [zu_at, zu_atL, zvn])) (by (try dsimp only); ((try clear hback_3); (try clear hj_5); first | lia | grind [zu_at, zu_atL, zvn])) ?_
    refine zw_zn1 ?_
    exact hback_3 _ (by (try dsimp only); (repeat' apply And.intro) <;> first | with_reducible assumption | ((try clear hback_3); (try clear hj_5); first | lia | grind [zu_at, zu_atL, zvn])) (by (try dsimp only); ((try clear hback_3); (try clear hj_5); first | lia | grind [zu_at, zu_atL, zvn])) (by (try dsimp only); ((try clear hback_3); (try clear hj_5); first | lia | grind [zu_at, zu_atL, zvn]))
  refine zw_some ?_
  first | exact True.intro | ((try dsimp only); (repeat' apply And.intro) <;> first | with_reducible assumption | ((try clear hback_3); (try clear hj_5); first | lia | grind [zu_at, zu_atL, zvn]))
set_option maxHeartbeats 4000000 in
set_option maxRecDepth 100000 in
theorem sf_X1_searchAll (v0_6 : Int32) (v0_7 : Int32) (v0_8 : Int32) (v1_0 : Int32) (v1_5 : Int32) (v2_0 : Int32) (v2_1 : Int32) (v3_0 : Int32) (f4 : Nat → Int32) (n5 : Nat) (f5 : Nat → Int32) (n6 : Nat) (f6 : Nat → Int32) (n7 : Nat) (f7 : Nat → Int32) (n8 : Nat) (f8 : Nat → Int32) (n9 : Nat) (f9 : Nat → Int32) (f10 : Nat → Int32) (f11 : Nat → Int32) (v12_1 : Int32) (v12_2 : Int32) (f13 : Nat → Int32) (f14 : Nat → Int32) (f15 : Nat → Int32) (f16 : Nat → Int32) (f17 : Nat → Int64) (f18 : Nat → Int32) (f20 : Nat → Int64) (f21 : Nat → Int64) (f22 : Nat → Int32) (f23 : Nat → Int32) (h_v0_6 : 0 ≤ v0_6 ∧ v0_6 ≤ 1024) (h_v1_0 : 0 ≤ v1_0 ∧ v1_0 ≤ 4) (h_v2_0 : 0 ≤ v2_0 ∧ v2_0 ≤ 14) (h_v2_1 : 0 ≤ v2_1 ∧ v2_1 ≤ 14) (h_v3_0 : 0 ≤ v3_0 ∧ v3_0 ≤ 14) (h_n5 : n5 ≤ 1024) (hN_n5 : 0 ≤ Int32.ofNat n5 ∧ Int32.ofNat n5 ≤ 1024) (h_n6 : n6 ≤ 14336) (hN_n6 : 0 ≤ Int32.ofNat n6 ∧ Int32.ofNat n6 ≤ 14336) (h_n7 : n7 ≤ 1024) (hN_n7 : 0 ≤ Int32.ofNat n7 ∧ Int32.ofNat n7 ≤ 1024) (h_n8 : n8 ≤ 1024) (hN_n8 : 0 ≤ Int32.ofNat n8 ∧ Int32.ofNat n8 ≤ 1024) (h_n9 : n9 ≤ 1024) (hN_n9 : 0 ≤ Int32.ofNat n9 ∧ Int32.ofNat n9 ≤ 1024) (h_f13 : (∀ i : Nat, 0 ≤ f13 i ∧ f13 i ≤ 13)) (hr_0 : v0_6 ≤ (Int32.ofNat n5)) (hr_1 : (Int32.ofNat n5) ≤ (Int32.ofNat n8)) (hr_2 : (Int32.ofNat n5) ≤ (Int32.ofNat n7)) (hr_3 : (Int32.ofNat n5) ≤ (Int32.ofNat n9)) (hr_4 : (Int32.ofNat n8) ≤ (Int32.ofNat n5)) (hr_5 : (Int32.ofNat n7) ≤ (Int32.ofNat n5)) (hr_6 : (Int32.ofNat n9) ≤ (Int32.ofNat n5)) : zw (fn_X1_searchAll v0_6 v0_7 v0_8 v1_0 v1_5 v2_0 v2_1 v3_0 f4 n5 f5 n6 f6 n7 f7 n8 f8 n9 f9 f10 f11 v12_1 v12_2 f13 f14 f15 f16 f17 f18 f20 f21 f22 f23) (fun r => 0 ≤ r.1 ∧ r.1 ≤ 14 ∧ 0 ≤ r.2.1 ∧ r.2.1 ≤ 1024 ∧ r.2.2.2.2.2.1 ≤ 1024 ∧ 0 ≤ Int32.ofNat r.2.2.2.2.2.1 ∧ Int32.ofNat r.2.2.2.2.2.1 ≤ 1024 ∧ r.2.2.2.2.2.2.2.1 ≤ 14336 ∧ 0 ≤ Int32.ofNat r.2.2.2.2.2.2.2.1 ∧ Int32.ofNat r.2.2.2.2.2.2.2.1 ≤ 14336 ∧ r.2.2.2.2.2.2.2.2.2.1 ≤ 1024 ∧ 0 ≤ Int32.ofNat r.2.2.2.2.2.2.2.2.2.1 ∧ Int32.ofNat r.2.2.2.2.2.2.2.2.2.1 ≤ 1024 ∧ r.2.2.2.2.2.2.2.2.2.2.2.1 ≤ 1024 ∧ 0 ≤ Int32.ofNat r.2.2.2.2.2.2.2.2.2.2.2.1 ∧ Int32.ofNat r.2.2.2.2.2.2.2.2.2.2.2.1 ≤ 1024 ∧ r.2.2.2.2.2.2.2.2.2.2.2.2.2.1 ≤ 1024 ∧ 0 ≤ Int32.ofNat r.2.2.2.2.2.2.2.2.2.2.2.2.2.1 ∧ Int32.ofNat r.2.2.2.2.2.2.2.2.2.2.2.2.2.1 ≤ 1024 ∧ r.2.1 ≤ (Int32.ofNat r.2.2.2.2.2.1) ∧ (Int32.ofNat r.2.2.2.2.2.1) ≤ (Int32.ofNat r.2.2.2.2.2.2.2.2.2.2.2.1) ∧ (Int32.ofNat r.2.2.2.2.2.1) ≤ (Int32.ofNat r.2.2.2.2.2.2.2.2.2.1) ∧ (Int32.ofNat r.2.2.2.2.2.1) ≤ (Int32.ofNat r.2.2.2.2.2.2.2.2.2.2.2.2.2.1) ∧ (Int32.ofNat r.2.2.2.2.2.2.2.2.2.2.2.1) ≤ (Int32.ofNat r.2.2.2.2.2.1) ∧ (Int32.ofNat r.2.2.2.2.2.2.2.2.2.1) ≤ (Int32.ofNat r.2.2.2.2.2.1) ∧ (Int32.ofNat r.2.2.2.2.2.2.2.2.2.2.2.2.2.1) ≤ (Int32.ofNat r.2.2.2.2.2.1) ∧ (Int32.ofNat n5) ≤ (Int32.ofNat r.2.2.2.2.2.1)) := by
  unfold fn_X1_searchAll
  refine zw_zl32 (fun s_1 => zPow s_1.2 s_1.1 ∧ 0 ≤ s_1.1 ∧ 0 ≤ s_1.2 ∧ s_1.1 ≤ 1024 ∧ s_1.2 ≤ 5 ∧ s_1.2 ≤ v2_1) (fun s_1 => 5 - s_1.2) (by (try dsimp only); (repeat' apply And.intro) <;> first | with_reducible assumption | first | lia | grind [zu_at, zu_atL, zvn, zPow_0]) (by (try dsimp only); first | lia | grind [zu_at, zu_atL, zvn, zPow_0]) (fun s_1 back_1 Hback_1 hback_1 => ?_)
  obtain ⟨s_1_0, s_1_1⟩ := s_1
  try dsimp only at Hback_1 hback_1
  obtain ⟨Hback_1_0, Hback_1_1, Hback_1_2, Hback_1_3, Hback_1_4, Hback_1_5⟩ := Hback_1
  refine zw_zj (fun _ => True) (fun s_2 Hj_2 => ?_) (fun j_2 hj_2 => ?_)
  · refine zw_zb0 (sf_X4_countAnswers v3_0 v3_0 f4 (by first | with_reducible assumption | exact ⟨by with_reducible assumption, by with_reducible assumption⟩ | first | lia | grind [zu_at, zu_atL, zvn, zPow_0])) (fun o_3 ho_3 => ?_)
    obtain ⟨ho_3_0, ho_3_1, ho_3_2⟩ := ho_3
    refine zw_zb0 (sf_X1_makeRoom s_1_0 o_3 n5 f5 n6 f6 n7 f7 n8 f8 n9 f9 (by first | with_reducible assumption | exact ⟨by with_reducible assumption, by with_reducible assumption⟩ | first | lia | grind [zu_at, zu_atL, zvn, zPow_0]) (by first | with_reducible assumption | exact ⟨by with_reducible assumption, by with_reducible assumption⟩ | first | lia | grind [zu_at, zu_atL, zvn, zPow_0]) (by first | with_reducible assumption | exact ⟨by with_reducible assumption, by with_reducible assumption⟩ | first | lia | grind [zu_at, zu_atL, zvn, zPow_0]) (by first | with_reducible assumption | exact ⟨by with_reducible assumption, by with_reducible assumption⟩ | first | lia | grind [zu_at, zu_atL, zvn, zPow_0]) (by first | with_reducible assumption | exact ⟨by with_reducible assumption, by with_reducible assumption⟩ | first | lia | grind [zu_at, zu_atL, zvn, zPow_0]) (by first | with_reducible assumption | exact ⟨by with_reducible assumption, by with_reducible assumption⟩ | first | lia | grind [zu_at, zu_atL, zvn, zPow_0]) (by first | with_reducible assumption | exact ⟨by with_reducible assumption, by with_reducible assumption⟩ | first | lia | grind [zu_at, zu_atL, zvn, zPow_0]) (by first | with_reducible assumption | exact ⟨by with_reducible assumption, by with_reducible assumption⟩ | first | lia | grind [zu_at, zu_atL, zvn, zPow_0]) (by first | with_reducible assumption | exact ⟨by with_reducible assumption, by with_reducible assumption⟩ | first | lia | grind [zu_at, zu_atL, zvn, zPow_0]) (by first | with_reducible assumption | exact ⟨by with_reducible assumption, by with_reducible assumption⟩ | first | lia | grind [zu_at, zu_atL, zvn, zPow_0]) (by first | with_reducible assumption | exact ⟨by with_reducible assumption, by with_reducible assumption⟩ | first | lia | grind [zu_at, zu_atL, zvn, zPow_0]) (by first | with_reducible assumption | exact ⟨by with_reducible assumption, by with_reducible assumption⟩ | first | lia | grind [zu_at, zu_atL, zvn, zPow_0]) (by first | with_reducible assumption | exact ⟨by with_reducible assumption, by with_reducible assumption⟩ | first | lia | grind [zu_at, zu_atL, zvn, zPow_0]) (by first | with_reducible assumption | exact ⟨by with_reducible assumption, by with_reducible assumption⟩ | first | lia | grind [zu_at, zu_atL, zvn, zPow_0]) (by first | with_reducible assumption | exact ⟨by with_reducible assumption, by with_reducible assumption⟩ | first | lia | grind [zu_at, zu_atL, zvn, zPow_0]) (by first | with_reducible assumption | exact ⟨by with_reducible assumption, by with_reducible assumption⟩ | first | lia | grind [zu_at, zu_atL, zvn, zPow_0]) (by first | with_reducible assumption | exact ⟨by with_reducible assumption, by with_reducible assumption⟩ | first | lia | grind [zu_at, zu_atL, zvn, zPow_0]) (by first | with_reducible assumption | exact ⟨by with_reducible assumption, by with_reducible assumption⟩ | first | lia | grind [zu_at, zu_atL, zvn, zPow_0])) (fun o_7 ho_7 => ?_)
    obtain ⟨o_7_0, o_7_1, o_7_2, o_7_3, o_7_4, o_7_5, o_7_6, o_7_7, o_7_8, o_7_9⟩ := o_7
    try dsimp only at ho_7
    obtain ⟨ho_7_0, ho_7_1, ho_7_2, ho_7_3, ho_7_4, ho_7_5, ho_7_6, ho_7_7, ho_7_8, ho_7_9, ho_7_10, ho_7_11, ho_7_12, ho_7_13, ho_7_14, ho_7_15, ho_7_16, ho_7_17, ho_7_18, ho_7_19, ho_7_20, ho_7_21⟩ := ho_7
    refine zw_zl32 (fun s_11 => 0 ≤ s_11.1 ∧ s_11.1 ≤ 1024 ∧ 0 ≤ s_11.2.1 ∧ s_11.2.1 ≤ 1024 ∧ s_11.1 ≤ s_1_0 ∧ s_11.2.1 ≤ (Int32.ofNat o_7_1)) (fun s_11 => 1024 - s_11.1) (by (try dsimp only); (repeat' apply And.intro) <;> first | with_reducible assumption | first | lia | grind [zu_at, zu_atL, zvn, zPow_0]) (by (try dsimp only); first | lia | grind [zu_at, zu_atL, zvn, zPow_0]) (fun s_11 back_11 Hback_11 hback_11 => ?_)
    obtain ⟨s_11_0, s_11_1, s_11_2, s_11_3, s_11_4, s_11_5, s_11_6, s_11_7, s_11_8, s_11_9⟩ := s_11
    try dsimp only at Hback_11 hback_11
    obtain ⟨Hback_11_0, Hback_11_1, Hback_11_2, Hback_11_3, Hback_11_4, Hback_11_5⟩ := Hback_11
    refine zw_if (fun c1 => ?_) (fun c1 => ?_)
    · refine zw_some ?_
      first | exact True.intro | ((try dsimp only); (repeat' apply And.intro) <;> first | with_reducible assumption | first | lia | grind [zu_at, zu_atL, zvn, zPow_0])
    refine zw_zb0 (sf_X1_unfold s_11_0 v1_0 v2_0 f10 s_11_8 (by first | with_reducible assumption | exact ⟨by with_reducible assumption, by with_reducible assumption⟩ | first | lia | grind [zu_at, zu_atL, zvn, zPow_0]) (by first | with_reducible assumption | exact ⟨by with_reducible assumption, by with_reducible assumption⟩ | first | lia | grind [zu_at, zu_atL, zvn, zPow_0])) (fun o_13 ho_13 => ?_)
    refine zw_zb0 (sf_X7_reckon v1_0 v3_0 f13 o_13 f14 f15 f16 s_11_9 f18 f20 f21 f22 f4 (by first | with_reducible assumption | exact ⟨by with_reducible assumption, by with_reducible assumption⟩ | first | lia | grind [zu_at, zu_atL, zvn, zPow_0]) (by first | with_reducible assumption | exact ⟨by with_reducible assumption, by with_reducible assumption⟩ | first | lia | grind [zu_at, zu_atL, zvn, zPow_0]) (by first | with_reducible assumption | exact ⟨by with_reducible assumption, by with_reducible assumption⟩ | first | lia | grind [zu_at, zu_atL, zvn, zPow_0])) (fun o_17 ho_17 => ?_)
    obtain ⟨o_17_0, o_17_1, o_17_2, o_17_3⟩ := o_17
    try dsimp only at ho_17
    obtain ⟨ho_17_0, ho_17_1, ho_17_2, ho_17_3, ho_17_4, ho_17_5, ho_17_6, ho_17_7, ho_17_8, ho_17_9, ho_17_10, ho_17_11⟩ := ho_17
    refine zw_if (fun c2 => ?_) (fun c2 => ?_)
    · exact hback_11 _ (by (try dsimp only); (repeat' apply And.intro) <;> first | with_reducible assumption | first | lia | grind [zu_at, zu_atL, zvn, zPow_0]) (by (try dsimp only); first | lia | grind [zu_at, zu_atL, zvn, zPow_0]) (by (try dsimp only); first | lia | grind [zu_at, zu_atL, zvn, zPow_0])
    refine zw_zb0 (sf_X9_priceOf v1_0 v1_5 v3_0 f16 f13 o_13 f23 (by first | with_reducible assumption | exact ⟨by with_reducible assumption, by with_reducible assumption⟩ | first | lia | grind [zu_at, zu_atL, zvn, zPow_0]) (by first | with_reducible assumption | exact ⟨by with_reducible assumption, by with_reducible assumption⟩ | first | lia | grind [zu_at, zu_atL, zvn, zPow_0]) (by first | with_reducible assumption | exact ⟨by with_reducible assumption, by with_reducible assumption⟩ | first | lia | grind [zu_at, zu_atL, zvn, zPow_0])) (fun o_22 ho_22 => ?_)
    refine zw_zb0 (sf_X1_keep s_11_0 o_22 o_3 s_11_1 s_11_2 s_11_3 o_7_1 s_11_6 v3_0 f4 o_7_3 s_11_7 o_17_3 (by first | with_reducible assumption | exact ⟨by with_reducible assumption, by with_reducible assumption⟩ | first | lia | grind [zu_at, zu_atL, zvn, zPow_0]) (by first | with_reducible assumption | exact ⟨by with_reducible assumption, by with_reducible assumption⟩ | first | lia | grind [zu_at, zu_atL, zvn, zPow_0]) (by first | with_reducible assumption | exact ⟨by with_reducible assumption, by with_reducible assumption⟩ | first | lia | grind [zu_at, zu_atL, zvn, zPow_0]) (by first | with_reducible assumption | exact ⟨by with_reducible assumption, by with_reducible assumption⟩ | first | lia | grind [zu_at, zu_atL, zvn, zPow_0]) (by first | with_reducible assumption | exact ⟨by with_reducible assumption, by with_reducible assumption⟩ | first | lia | grind [zu_at, zu_atL, zvn, zPow_0]) (by first | with_reducible assumption | exact ⟨by with_reducible assumption, by with_reducible assumption⟩ | first | lia | grind [zu_at, zu_atL, zvn, zPow_0]) (by first | with_reducible assumption | exact ⟨by with_reducible assumption, by with_reducible assumption⟩ | first | lia | grind [zu_at, zu_atL, zvn, zPow_0]) (by first | with_reducible assumption | exact ⟨by with_reducible assumption, by with_reducible assumption⟩ | first | lia | grind [zu_at, zu_atL, zvn, zPow_0])) (fun o_26 ho_26 => ?_)
    obtain ⟨o_26_0, o_26_1, o_26_2, o_26_3, o_26_4⟩ := o_26
    try dsimp only at ho_26
    obtain ⟨ho_26_0, ho_26_1, ho_26_2⟩ := ho_26
    exact hback_11 _ (by (try dsimp only); (repeat' apply And.intro) <;> first | with_reducible assumption | first | lia | grind [zu_at, zu_atL, zvn, zPow_0]) (by (try dsimp only); first | lia | grind [zu_at, zu_atL, zvn, zPow_0]) (by (try dsimp only); first | lia | grind [zu_at, zu_atL, zvn, zPow_0])
  refine zw_if (fun c3 => ?_) (fun c3 => ?_)
  · exact hj_2 _ (by first | exact True.intro | ((try dsimp only); (repeat' apply And.intro) <;> first | with_reducible assumption | first | lia | grind [zu_at, zu_atL, zvn, zPow_0]))
  refine zw_if (fun c4 => ?_) (fun c4 => ?_)
  · exact hj_2 _ (by first | exact True.intro | ((try dsimp only); (repeat' apply And.intro) <;> first | with_reducible assumption | first | lia | grind [zu_at, zu_atL, zvn, zPow_0]))
  have hz := zPow_step Hback_1_0 (by lia) (v := v1_0) (by grind) (by grind)
  obtain ⟨hz1, hz2, hz3, hz4⟩ := zPow_rng hz
  exact hback_1 _ (by (try dsimp only); (repeat' apply And.intro) <;> first | with_reducible assumption | first | lia | grind [zu_at, zu_atL, zvn, zPow_0]) (by (try dsimp only); first | lia | grind [zu_at, zu_atL, zvn, zPow_0]) (by (try dsimp only); first | lia | grind [zu_at, zu_atL, zvn, zPow_0])
set_option maxHeartbeats 4000000 in
set_option maxRecDepth 100000 in
theorem sf_X1_search (v0_2 : Int32) (v0_3 : Int32) (v0_6 : Int32) (v0_7 : Int32) (v0_8 : Int32) (v1_0 : Int32) (v1_5 : Int32) (v2_0 : Int32) (v3_0 : Int32) (v3_1 : Int32) (v3_2 : Int32) (f4 : Nat → Int32) (n5 : Nat) (f5 : Nat → Int32) (n6 : Nat) (f6 : Nat → Int32) (n7 : Nat) (f7 : Nat → Int32) (n8 : Nat) (f8 : Nat → Int32) (n9 : Nat) (f9 : Nat → Int32) (f10 : Nat → Int32) (f11 : Nat → Int32) (v12_1 : Int32) (v12_2 : Int32) (f13 : Nat → Int32) (f14 : Nat → Int32) (f15 : Nat → Int32) (f16 : Nat → Int32) (f17 : Nat → Int64) (f18 : Nat → Int32) (f20 : Nat → Int64) (f21 : Nat → Int64) (f22 : Nat → Int32) (f23 : Nat → Int32) (h_v0_2 : 0 ≤ v0_2 ∧ v0_2 ≤ 1) (h_v0_3 : 0 ≤ v0_3 ∧ v0_3 ≤ 14) (h_v0_6 : 0 ≤ v0_6 ∧ v0_6 ≤ 1024) (h_v1_0 : 0 ≤ v1_0 ∧ v1_0 ≤ 4) (h_v2_0 : 0 ≤ v2_0 ∧ v2_0 ≤ 14) (h_v3_0 : 0 ≤ v3_0 ∧ v3_0 ≤ 14) (h_v3_1 : 0 ≤ v3_1 ∧ v3_1 ≤ 14) (h_v3_2 : 0 ≤ v3_2 ∧ v3_2 ≤ 1) (h_n5 : n5 ≤ 1024) (hN_n5 : 0 ≤ Int32.ofNat n5 ∧ Int32.ofNat n5 ≤ 1024) (h_n6 : n6 ≤ 14336) (hN_n6 : 0 ≤ Int32.ofNat n6 ∧ Int32.ofNat n6 ≤ 14336) (h_n7 : n7 ≤ 1024) (hN_n7 : 0 ≤ Int32.ofNat n7 ∧ Int32.ofNat n7 ≤ 1024) (h_n8 : n8 ≤ 1024) (hN_n8 : 0 ≤ Int32.ofNat n8 ∧ Int32.ofNat n8 ≤ 1024) (h_n9 : n9 ≤ 1024) (hN_n9 : 0 ≤ Int32.ofNat n9 ∧ Int32.ofNat n9 ≤ 1024) (h_f13 : (∀ i : Nat, 0 ≤ f13 i ∧ f13 i ≤ 13)) (hr_0 : v0_6 ≤ (Int32.ofNat n5)) (hr_1 : (Int32.ofNat n5) ≤ (Int32.ofNat n8)) (hr_2 : (Int32.ofNat n5) ≤ (Int32.ofNat n7)) (hr_3 : (Int32.ofNat n5) ≤ (Int32.ofNat n9)) (hr_4 : (Int32.ofNat n8) ≤ (Int32.ofNat n5)) (hr_5 : (Int32.ofNat n7) ≤ (Int32.ofNat n5)) (hr_6 : (Int32.ofNat n9) ≤ (Int32.ofNat n5)) : zw (fn_X1_search v0_2 v0_3 v0_6 v0_7 v0_8 v1_0 v1_5 v2_0 v3_0 v3_1 v3_2 f4 n5 f5 n6 f6 n7 f7 n8 f8 n9 f9 f10 f11 v12_1 v12_2 f13 f14 f15 f16 f17 f18 f20 f21 f22 f23) (fun r => 0 ≤ r.1 ∧ r.1 ≤ 1 ∧ 0 ≤ r.2.1 ∧ r.2.1 ≤ 1 ∧ 0 ≤ r.2.2.1 ∧ r.2.2.1 ≤ 14 ∧ 0 ≤ r.2.2.2.1 ∧ r.2.2.2.1 ≤ 1024 ∧ r.2.2.2.2.2.2.2.1 ≤ 1024 ∧ 0 ≤ Int32.ofNat r.2.2.2.2.2.2.2.1 ∧ Int32.ofNat r.2.2.2.2.2.2.2.1 ≤ 1024 ∧ r.2.2.2.2.2.2.2.2.2.1 ≤ 14336 ∧ 0 ≤ Int32.ofNat r.2.2.2.2.2.2.2.2.2.1 ∧ Int32.ofNat r.2.2.2.2.2.2.2.2.2.1 ≤ 14336 ∧ r.2.2.2.2.2.2.2.2.2.2.2.1 ≤ 1024 ∧ 0 ≤ Int32.ofNat r.2.2.2.2.2.2.2.2.2.2.2.1 ∧ Int32.ofNat r.2.2.2.2.2.2.2.2.2.2.2.1 ≤ 1024 ∧ r.2.2.2.2.2.2.2.2.2.2.2.2.2.1 ≤ 1024 ∧ 0 ≤ Int32.ofNat r.2.2.2.2.2.2.2.2.2.2.2.2.2.1 ∧ Int32.ofNat r.2.2.2.2.2.2.2.2.2.2.2.2.2.1 ≤ 1024 ∧ r.2.2.2.2.2.2.2.2.2.2.2.2.2.2.2.1 ≤ 1024 ∧ 0 ≤ Int32.ofNat r.2.2.2.2.2.2.2.2.2.2.2.2.2.2.2.1 ∧ Int32.ofNat r.2.2.2.2.2.2.2.2.2.2.2.2.2.2.2.1 ≤ 1024 ∧ r.2.2.2.1 ≤ (Int32.ofNat r.2.2.2.2.2.2.2.1) ∧ (Int32.ofNat r.2.2.2.2.2.2.2.1) ≤ (Int32.ofNat r.2.2.2.2.2.2.2.2.2.2.2.2.2.1) ∧ (Int32.ofNat r.2.2.2.2.2.2.2.1) ≤ (Int32.ofNat r.2.2.2.2.2.2.2.2.2.2.2.1) ∧ (Int32.ofNat r.2.2.2.2.2.2.2.1) ≤ (Int32.ofNat r.2.2.2.2.2.2.2.2.2.2.2.2.2.2.2.1) ∧ (Int32.ofNat r.2.2.2.2.2.2.2.2.2.2.2.2.2.1) ≤ (Int32.ofNat r.2.2.2.2.2.2.2.1) ∧ (Int32.ofNat r.2.2.2.2.2.2.2.2.2.2.2.1) ≤ (Int32.ofNat r.2.2.2.2.2.2.2.1) ∧ (Int32.ofNat r.2.2.2.2.2.2.2.2.2.2.2.2.2.2.2.1) ≤ (Int32.ofNat r.2.2.2.2.2.2.2.1) ∧ (Int32.ofNat n5) ≤ (Int32.ofNat r.2.2.2.2.2.2.2.1)) := by
  unfold fn_X1_search
  refine zw_if (fun c1 => ?_) (fun c1 => ?_)
  · refine zw_some ?_
    first | exact True.intro | ((try dsimp only); (repeat' apply And.intro) <;> first | with_reducible assumption | first | lia | grind [zu_at, zu_atL, zvn])
  refine zw_if (fun c2 => ?_) (fun c2 => ?_)
  · refine zw_if (fun c3 => ?_) (fun c3 => ?_)
    · refine zw_zb0 (sf_X9_hasChoice v2_0 v3_2 (by first | with_reducible assumption | exact ⟨by with_reducible assumption, by with_reducible assumption⟩ | first | lia | grind [zu_at, zu_atL, zvn]) (by first | with_reducible assumption | exact ⟨by with_reducible assumption, by with_reducible assumption⟩ | first | lia | grind [zu_at, zu_atL, zvn])) (fun o_4 ho_4 => ?_)
      obtain ⟨ho_4_0, ho_4_1, ho_4_2, ho_4_3, ho_4_4, ho_4_5, ho_4_6⟩ := ho_4
      refine zw_if (fun c4 => ?_) (fun c4 => ?_)
      · refine zw_some ?_
        first | exact True.intro | ((try dsimp only); (repeat' apply And.intro) <;> first | with_reducible assumption | first | lia | grind [zu_at, zu_atL, zvn])
      refine zw_zb0 (sf_X1_searchAll 0 (-1) v0_8 v1_0 v1_5 v3_0 v3_1 v2_0 f4 n5 f5 n6 f6 n7 f7 n8 f8 n9 f9 f10 f11 v12_1 v12_2 f13 f14 f15 f16 f17 f18 f20 f21 f22 f23 (by first | with_reducible assumption | exact ⟨by with_reducible assumption, by with_reducible assumption⟩ | first | lia | grind [zu_at, zu_atL, zvn]) (by first | with_reducible assumption | exact ⟨by with_reducible assumption, by with_reducible assumption⟩ | first | lia | grind [zu_at, zu_atL, zvn]) (by first | with_reducible assumption | exact ⟨by with_reducible assumption, by with_reducible assumption⟩ | first | lia | grind [zu_at, zu_atL, zvn]) (by first | with_reducible assumption | exact ⟨by with_reducible assumption, by with_reducible assumption⟩ | first | lia | grind [zu_at, zu_atL, zvn]) (by first | with_reducible assumption | exact ⟨by with_reducible assumption, by with_reducible assumption⟩ | first | lia | grind [zu_at, zu_atL, zvn]) (by first | with_reducible assumption | exact ⟨by with_reducible assumption, by with_reducible assumption⟩ | first | lia | grind [zu_at, zu_atL, zvn]) (by first | with_reducible assumption | exact ⟨by with_reducible assumption, by with_reducible assumption⟩ | first | lia | grind [zu_at, zu_atL, zvn]) (by first | with_reducible assumption | exact ⟨by with_reducible assumption, by with_reducible assumption⟩ | first | lia | grind [zu_at, zu_atL, zvn]) (by first | with_reducible assumption | exact ⟨by with_reducible assumption, by with_reducible assumption⟩ | first | lia | grind [zu_at, zu_atL, zvn]) (by first | with_reducible assumption | exact ⟨by with_reducible assumption, by with_reducible assumption⟩ | first | lia | grind [zu_at, zu_atL, zvn]) (by first | with_reducible assumption | exact ⟨by with_reducible assumption, by with_reducible assumption⟩ | first | lia | grind [zu_at, zu_atL, zvn]) (by first | with_reducible assumption | exact ⟨by with_reducible assumption, by with_reducible assumption⟩ | first | lia | grind [zu_at, zu_atL, zvn]) (by first | with_reducible assumption | exact ⟨by with_reducible assumption, by with_reducible assumption⟩ | first | lia | grind [zu_at, zu_atL, zvn]) (by first | with_reducible assumption | exact ⟨by with_reducible assumption, by with_reducible assumption⟩ | first | lia | grind [zu_at, zu_atL, zvn]) (by first | with_reducible assumption | exact ⟨by with_reducible assumption, by with_reducible assumption⟩ | first | lia | grind [zu_at, zu_atL, zvn]) (by first | with_reducible assumption | exact ⟨by with_reducible assumption, by with_reducible assumption⟩ | first | lia | grind [zu_at, zu_atL, zvn]) (by first | with_reducible assumption | exact ⟨by with_reducible assumption, by with_reducible assumption⟩ | first | lia | grind [zu_at, zu_atL, zvn]) (by first | with_reducible assumption | exact ⟨by with_reducible assumption, by with_reducible assumption⟩ | first | lia | grind [zu_at, zu_atL, zvn]) (by first | with_reducible assumption | exact ⟨by with_reducible assumption, by with_reducible assumption⟩ | first | lia | grind [zu_at, zu_atL, zvn]) (by first | with_reducible assumption | exact ⟨by with_reducible assumption, by with_reducible assumption⟩ | first | lia | grind [zu_at, zu_atL, zvn]) (by first | with_reducible assumption | exact ⟨by with_reducible assumption, by with_reducible assumption⟩ | first | lia | grind [zu_at, zu_atL, zvn]) (by first | with_reducible assumption | exact ⟨by with_reducible assumption, by with_reducible assumption⟩ | first | lia | grind [zu_at, zu_atL, zvn]) (by first | with_reducible assumption | exact ⟨by with_reducible assumption, by with_reducible assumption⟩ | first | lia | grind [zu_at, zu_atL, zvn])) (fun o_9 ho_9 => ?_)
      obtain ⟨o_9_0, o_9_1, o_9_2, o_9_3, o_9_4, o_9_5, o_9_6, o_9_7, o_9_8, o_9_9, o_9_10, o_9_11, o_9_12, o_9_13, o_9_14, o_9_15, o_9_16, o_9_17⟩ := o_9
      try dsimp only at ho_9
      obtain ⟨ho_9_0, ho_9_1, ho_9_2, ho_9_3, ho_9_4, ho_9_5, ho_9_6, ho_9_7, ho_9_8, ho_9_9, ho_9_10, ho_9_11, ho_9_12, ho_9_13, ho_9_14, ho_9_15, ho_9_16, ho_9_17, ho_9_18, ho_9_19, ho_9_20, ho_9_21, ho_9_22, ho_9_23, ho_9_24, ho_9_25, ho_9_26⟩ := ho_9
      refine zw_some ?_
      first | exact True.intro | ((try dsimp only); (repeat' apply And.intro) <;> first | with_reducible assumption | first | lia | grind [zu_at, zu_atL, zvn])
    refine zw_some ?_
    first | exact True.intro | ((try dsimp only); (repeat' apply And.intro) <;> first | with_reducible assumption | first | lia | grind [zu_at, zu_atL, zvn])
  refine zw_some ?_
  first | exact True.intro | ((try dsimp only); (repeat' apply And.intro) <;> first | with_reducible assumption | first | lia | grind [zu_at, zu_atL, zvn])
set_option maxHeartbeats 4000000 in
set_option maxRecDepth 100000 in
theorem sf_X1_errorAt (p1 : Int32) (p2 : Int32) (v0_3 : Int32) (n1 : Nat) (f1 : Nat → Int32) (h_v0_3 : 0 ≤ v0_3 ∧ v0_3 ≤ 14) (h_n1 : n1 ≤ 14336) (hN_n1 : 0 ≤ Int32.ofNat n1 ∧ Int32.ofNat n1 ≤ 14336) : zw (fn_X1_errorAt p1 p2 v0_3 n1 f1) (fun r => (¬ r = 1000001 → 1 ≤ (Int32.ofNat n1))) := by
  unfold fn_X1_errorAt
  refine zw_if (fun c1 => ?_) (fun c1 => ?_)
  · refine zw_some ?_
    first | exact True.intro | ((try dsimp only); (repeat' apply And.intro) <;> first | with_reducible assumption | first | lia | grind [zu_at, zu_atL, zvn])
  refine zw_if (fun c2 => ?_) (fun c2 => ?_)
  · refine zw_some ?_
    first | exact True.intro | ((try dsimp only); (repeat' apply And.intro) <;> first | with_reducible assumption | first | lia | grind [zu_at, zu_atL, zvn])
  refine zw_zgN (by (try dsimp only); first | lia | grind [zu_at, zu_atL, zvn]) (by (try dsimp only); first | lia | grind [zu_at, zu_atL, zvn]) ?_
  refine zw_some ?_
  first | exact True.intro | ((try dsimp only); (repeat' apply And.intro) <;> first | with_reducible assumption | first | lia | grind [zu_at, zu_atL, zvn])
set_option maxHeartbeats 4000000 in
set_option maxRecDepth 100000 in
theorem sf_X1_leastWithin (p2 : Int32) (p3 : Int32) (v0_3 : Int32) (v0_6 : Int32) (v2_0 : Int32) (f3 : Nat → Int32) (n4 : Nat) (f4 : Nat → Int32) (n5 : Nat) (f5 : Nat → Int32) (h_v0_3 : 0 ≤ v0_3 ∧ v0_3 ≤ 14) (h_v0_6 : 0 ≤ v0_6 ∧ v0_6 ≤ 1024) (h_v2_0 : 0 ≤ v2_0 ∧ v2_0 ≤ 14) (h_n4 : n4 ≤ 1024) (hN_n4 : 0 ≤ Int32.ofNat n4 ∧ Int32.ofNat n4 ≤ 1024) (h_n5 : n5 ≤ 14336) (hN_n5 : 0 ≤ Int32.ofNat n5 ∧ Int32.ofNat n5 ≤ 14336) (hr_0 : v0_6 ≤ (Int32.ofNat n4)) : zw (fn_X1_leastWithin p2 p3 v0_3 v0_6 v2_0 f3 n4 f4 n5 f5) (fun r => True) := by
  unfold fn_X1_leastWithin
  refine zw_zb0 (sf_X4_countAnswers p2 v2_0 f3 (by first | with_reducible assumption | exact ⟨by with_reducible assumption, by with_reducible assumption⟩ | first | lia | grind [zu_at, zu_atL, zvn])) (fun o_1 ho_1 => ?_)
  obtain ⟨ho_1_0, ho_1_1, ho_1_2⟩ := ho_1
  refine zw_zl32 (fun s_5 => 0 ≤ s_5.2 ∧ s_5.2 ≤ 1024 ∧ s_5.2 ≤ v0_6) (fun s_5 => 1024 - s_5.2) (by (try dsimp only); (repeat' apply And.intro) <;> first | with_reducible assumption | first | lia | grind [zu_at, zu_atL, zvn]) (by (try dsimp only); first | lia | grind [zu_at, zu_atL, zvn]) (fun s_5 back_5 Hback_5 hback_5 => ?_)
  obtain ⟨s_5_0, s_5_1⟩ := s_5
  try dsimp only at Hback_5 hback_5
  obtain ⟨Hback_5_0, Hback_5_1, Hback_5_2⟩ := Hback_5
  refine zw_if (fun c1 => ?_) (fun c1 => ?_)
  · refine zw_some ?_
    first | exact True.intro | ((try dsimp only); (repeat' apply And.intro) <;> first | with_reducible assumption | ((try clear hback_5); first | lia | grind [zu_at, zu_atL, zvn]))
  refine zw_zgN (by (try dsimp only); ((try clear hback_5); first | lia | grind [zu_at, zu_atL, zvn])) (by (try dsimp only); ((try clear hback_5); first | lia | grind [zu_at, zu_atL, zvn])) ?_
  refine zw_if (fun c2 => ?_) (fun c2 => ?_)
  · exact hback_5 _ (by (try dsimp only); (repeat' apply And.intro) <;> first | with_reducible assumption | ((try clear hback_5); first | lia | grind [zu_at, zu_atL, zvn])) (by (try dsimp only); ((try clear hback_5); first | lia | grind [zu_at, zu_atL, zvn])) (by (try dsimp only); ((try clear hback_5); first | lia | grind [zu_at, zu_atL, zvn]))
  refine zw_ifc (lg_cmp_eq _ _) (fun c3 => ?_) (fun c3 => ?_)
  · refine zw_zb0 (sf_X1_errorAt s_5_1 o_1 v0_3 n5 f5 (by first | with_reducible assumption | exact ⟨by with_reducible assumption, by with_reducible assumption⟩ | ((try clear hback_5); first | lia | grind [zu_at, zu_atL, zvn])) (by first | with_reducible assumption | exact ⟨by with_reducible assumption, by with_reducible assumption⟩ | ((try clear hback_5); first | lia | grind [zu_at, zu_atL, zvn])) (by first | with_reducible assumption | exact ⟨by with_reducible assumption, by with_reducible assumption⟩ | ((try clear hback_5); first | lia | grind [zu_at, zu_atL, zvn]))) (fun o_10 ho_10 => ?_)
    exact hback_5 _ (by (try dsimp only); (repeat' apply And.intro) <;> first | with_reducible assumption | ((try clear hback_5); first | lia | grind [zu_at, zu_atL, zvn])) (by (try dsimp only); ((try clear hback_5); first | lia | grind [zu_at, zu_atL, zvn])) (by (try dsimp only); ((try clear hback_5); first | lia | grind [zu_at, zu_atL, zvn]))
  refine zw_zb0 (sf_X1_errorAt s_5_1 o_1 v0_3 n5 f5 (by first | with_reducible assumption | exact ⟨by with_reducible assumption, by with_reducible assumption⟩ | ((try clear hback_5); first | lia | grind [zu_at, zu_atL, zvn])) (by first | with_reducible assumption | exact ⟨by with_reducible assumption, by with_reducible assumption⟩ | ((try clear hback_5); first | lia | grind [zu_at, zu_atL, zvn])) (by first | with_reducible assumption | exact ⟨by with_reducible assumption, by with_reducible assumption⟩ | ((try clear hback_5); first | lia | grind [zu_at, zu_atL, zvn]))) (fun o_14 ho_14 => ?_)
  refine zw_ifc (lg_cmp_ge _ _) (fun c4 => ?_) (fun c4 => ?_)
  · exact hback_5 _ (by (try dsimp only); (repeat' apply And.intro) <;> first | with_reducible assumption | ((try clear hback_5); first | lia | grind [zu_at, zu_atL, zvn])) (by (try dsimp only); ((try clear hback_5); first | lia | grind [zu_at, zu_atL, zvn])) (by (try dsimp only); ((try clear hback_5); first | lia | grind [zu_at, zu_atL, zvn]))
  refine zw_zb0 (sf_X1_errorAt s_5_1 o_1 v0_3 n5 f5 (by first | with_reducible assumption | exact ⟨by with_reducible assumption, by with_reducible assumption⟩ | ((try clear hback_5); first | lia | grind [zu_at, zu_atL, zvn])) (by first | with_reducible assumption | exact ⟨by with_reducible assumption, by with_reducible assumption⟩ | ((try clear hback_5); first | lia | grind [zu_at, zu_atL, zvn])) (by first | with_reducible assumption | exact ⟨by with_reducible assumption, by with_reducible assumption⟩ | ((try clear hback_5); first | lia | grind [zu_at, zu_atL, zvn]))) (fun o_19 ho_19 => ?_)
  exact hback_5 _ (by (try dsimp only); (repeat' apply And.intro) <;> first | with_reducible assumption | ((try clear hback_5); first | lia | grind [zu_at, zu_atL, zvn])) (by (try dsimp only); ((try clear hback_5); first | lia | grind [zu_at, zu_atL, zvn])) (by (try dsimp only); ((try clear hback_5); first | lia | grind [zu_at, zu_atL, zvn]))
set_option maxHeartbeats 4000000 in
set_option maxRecDepth 100000 in
theorem sf_X1_cheapestBelow (p1 : Int32) (p2 : Int32) (v0_3 : Int32) (v0_6 : Int32) (n1 : Nat) (f1 : Nat → Int32) (n2 : Nat) (f2 : Nat → Int32) (h_v0_3 : 0 ≤ v0_3 ∧ v0_3 ≤ 14) (h_v0_6 : 0 ≤ v0_6 ∧ v0_6 ≤ 1024) (h_n1 : n1 ≤ 14336) (hN_n1 : 0 ≤ Int32.ofNat n1 ∧ Int32.ofNat n1 ≤ 14336) (h_n2 : n2 ≤ 1024) (hN_n2 : 0 ≤ Int32.ofNat n2 ∧ Int32.ofNat n2 ≤ 1024) (hr_0 : v0_6 ≤ (Int32.ofNat n2)) : zw (fn_X1_cheapestBelow p1 p2 v0_3 v0_6 n1 f1 n2 f2) (fun r => (-1) ≤ r ∧ r ≤ 1023 ∧ r < v0_6) := by
  unfold fn_X1_cheapestBelow
  refine zw_zl32 (fun s_1 => (-1) ≤ s_1.1 ∧ 0 ≤ s_1.2 ∧ s_1.1 ≤ 1023 ∧ s_1.2 ≤ 1024 ∧ s_1.1 < v0_6 ∧ s_1.2 ≤ v0_6 ∧ s_1.1 < s_1.2) (fun s_1 => 1024 - s_1.2) (by (try dsimp only); (repeat' apply And.intro) <;> first | with_reducible assumption | first | lia | grind [zu_at, zu_atL, zvn]) (by (try dsimp only); first | lia | grind [zu_at, zu_atL, zvn]) (fun s_1 back_1 Hback_1 hback_1 => ?_)
  obtain ⟨s_1_0, s_1_1⟩ := s_1
  try dsimp only at Hback_1 hback_1
  obtain ⟨Hback_1_0, Hback_1_1, Hback_1_2, Hback_1_3, Hback_1_4, Hback_1_5, Hback_1_6⟩ := Hback_1
  refine zw_if (fun c1 => ?_) (fun c1 => ?_)
  · refine zw_some ?_
    first | exact True.intro | ((try dsimp only); (repeat' apply And.intro) <;> first | with_reducible assumption | ((try clear hback_1); first | lia | grind [zu_at, zu_atL, zvn]))
  refine zw_zb0 (sf_X1_errorAt s_1_1 p1 v0_3 n1 f1 (by first | with_reducible assumption | exact ⟨by with_reducible assumption, by with_reducible assumption⟩ | ((try clear hback_1); first | lia | grind [zu_at, zu_atL, zvn])) (by first | with_reducible assumption | exact ⟨by with_reducible assumption, by with_reducible assumption⟩ | ((try clear hback_1); first | lia | grind [zu_at, zu_atL, zvn])) (by first | with_reducible assumption | exact ⟨by with_reducible assumption, by with_reducible assumption⟩ | ((try clear hback_1); first | lia | grind [zu_at, zu_atL, zvn]))) (fun o_3 ho_3 => ?_)
  refine zw_if (fun c2 => ?_) (fun c2 => ?_)
  · exact hback_1 _ (by (try dsimp only); (repeat' apply And.intro) <;> first | with_reducible assumption | ((try clear hback_1); first | lia | grind [zu_at, zu_atL, zvn])) (by (try dsimp only); ((try clear hback_1); first | lia | grind [zu_at, zu_atL, zvn])) (by (try dsimp only); ((try clear hback_1); first | lia | grind [zu_at, zu_atL, zvn]))
  refine zw_if (fun c3 => ?_) (fun c3 => ?_)
  · exact hback_1 _ (by (try dsimp only); (repeat' apply And.intro) <;> first | with_reducible assumption | ((try clear hback_1); first | lia | grind [zu_at, zu_atL, zvn])) (by (try dsimp only); ((try clear hback_1); first | lia | grind [zu_at, zu_atL, zvn])) (by (try dsimp only); ((try clear hback_1); first | lia | grind [zu_at, zu_atL, zvn]))
  refine zw_zgN (by (try dsimp only); ((try clear hback_1); first | lia | grind [zu_at, zu_atL, zvn])) (by (try dsimp only); ((try clear hback_1); first | lia | grind [zu_at, zu_atL, zvn])) ?_
  refine zw_zgN (by (try dsimp only); ((try clear hback_1); first | lia | grind [zu_at, zu_atL, zvn])) (by (try dsimp only); ((try clear hback_1); first | lia | grind [zu_at, zu_atL, zvn])) ?_
  refine zw_if (fun c4 => ?_) (fun c4 => ?_)
  · exact hback_1 _ (by (try dsimp only); (repeat' apply And.intro) <;> first | with_reducible assumption | ((try clear hback_1); first | lia | grind [zu_at, zu_atL, zvn])) (by (try dsimp only); ((try clear hback_1); first | lia | grind [zu_at, zu_atL, zvn])) (by (try dsimp only); ((try clear hback_1); first | lia | grind [zu_at, zu_atL, zvn]))
  refine zw_if (fun c5 => ?_) (fun c5 => ?_)
  · refine zw_zb0 (sf_X1_errorAt s_1_0 p1 v0_3 n1 f1 (by first | with_reducible assumption | exact ⟨by with_reducible assumption, by with_reducible assumption⟩ | ((try clear hback_1); first | lia | grind [zu_at, zu_atL, zvn])) (by first | with_reducible assumption | exact ⟨by with_reducible assumption, by with_reducible assumption⟩ | ((try clear hback_1); first | lia | grind [zu_at, zu_atL, zvn])) (by first | with_reducible assumption | exact ⟨by with_reducible assumption, by with_reducible assumption⟩ | ((try clear hback_1); first | lia | grind [zu_at, zu_atL, zvn]))) (fun o_13 ho_13 => ?_)
    refine zw_if (fun c6 => ?_) (fun c6 => ?_)
    · exact hback_1 _ (by (try dsimp only); (repeat' apply And.intro) <;> first | with_reducible assumption | ((try clear hback_1); first | lia | grind [zu_at, zu_atL, zvn])) (by (try dsimp only); ((try clear hback_1); first | lia | grind [zu_at, zu_atL, zvn])) (by (try dsimp only); ((try clear hback_1); first | lia | grind [zu_at, zu_atL, zvn]))
    exact hback_1 _ (by (try dsimp only); (repeat' apply And.intro) <;> first | with_reducible assumption | ((try clear hback_1); first | lia | grind [zu_at, zu_atL, zvn])) (by (try dsimp only); ((try clear hback_1); first | lia | grind [zu_at, zu_atL, zvn])) (by (try dsimp only); ((try clear hback_1); first | lia | grind [zu_at, zu_atL, zvn]))
  exact hback_1 _ (by (try dsimp only); (repeat' apply And.intro) <;> first | with_reducible assumption | ((try clear hback_1); first | lia | grind [zu_at, zu_atL, zvn])) (by (try dsimp only); ((try clear hback_1); first | lia | grind [zu_at, zu_atL, zvn])) (by (try dsimp only); ((try clear hback_1); first | lia | grind [zu_at, zu_atL, zvn]))
set_option maxHeartbeats 4000000 in
set_option maxRecDepth 100000 in
theorem sf_X1_countAlike (p1 : Int32) (p2 : Int32) (p3 : Int32) (v0_3 : Int32) (v0_6 : Int32) (n1 : Nat) (f1 : Nat → Int32) (n2 : Nat) (f2 : Nat → Int32) (h_v0_3 : 0 ≤ v0_3 ∧ v0_3 ≤ 14) (h_v0_6 : 0 ≤ v0_6 ∧ v0_6 ≤ 1024) (h_n1 : n1 ≤ 1024) (hN_n1 : 0 ≤ Int32.ofNat n1 ∧ Int32.ofNat n1 ≤ 1024) (h_n2 : n2 ≤ 14336) (hN_n2 : 0 ≤ Int32.ofNat n2 ∧ Int32.ofNat n2 ≤ 14336) (hr_0 : v0_6 ≤ (Int32.ofNat n1)) : zw (fn_X1_countAlike p1 p2 p3 v0_3 v0_6 n1 f1 n2 f2) (fun r => 0 ≤ r ∧ r ≤ 1024 ∧ r ≤ v0_6) := by
  unfold fn_X1_countAlike
  refine zw_zl32 (fun s_1 => 0 ≤ s_1.1 ∧ 0 ≤ s_1.2 ∧ s_1.1 ≤ 1024 ∧ s_1.2 ≤ 1024 ∧ s_1.1 ≤ v0_6 ∧ s_1.2 ≤ v0_6 ∧ s_1.1 ≤ s_1.2) (fun s_1 => 1024 - s_1.2) (by (try dsimp only); (repeat' apply And.intro) <;> first | with_reducible assumption | first | lia | grind [zu_at, zu_atL, zvn]) (by (try dsimp only); first | lia | grind [zu_at, zu_atL, zvn]) (fun s_1 back_1 Hback_1 hback_1 => ?_)
  obtain ⟨s_1_0, s_1_1⟩ := s_1
  try dsimp only at Hback_1 hback_1
  obtain ⟨Hback_1_0, Hback_1_1, Hback_1_2, Hback_1_3, Hback_1_4, Hback_1_5, Hback_1_6⟩ := Hback_1
  refine zw_if (fun c1 => ?_) (fun c1 => ?_)
  · refine zw_some ?_
    first | exact True.intro | ((try dsimp only); (repeat' apply And.intro) <;> first | with_reducible assumption | ((try clear hback_1); first | lia | grind [zu_at, zu_atL, zvn]))
  refine zw_zgN (by (try dsimp only); ((try clear hback_1); first | lia | grind [zu_at, zu_atL, zvn])) (by (try dsimp only); ((try clear hback_1); first | lia | grind [zu_at, zu_atL, zvn])) ?_
  refine zw_if (fun c2 => ?_) (fun c2 => ?_)
  · refine zw_zb0 (sf_X1_errorAt s_1_1 p1 v0_3 n2 f2 (by first | with_reducible assumption | exact ⟨by with_reducible assumption, by with_reducible assumption⟩ | ((try clear hback_1); first | lia | grind [zu_at, zu_atL, zvn])) (by first | with_reducible assumption | exact ⟨by with_reducible assumption, by with_reducible assumption⟩ | ((try clear hback_1); first | lia | grind [zu_at, zu_atL, zvn])) (by first | with_reducible assumption | exact ⟨by with_reducible assumption, by with_reducible assumption⟩ | ((try clear hback_1); first | lia | grind [zu_at, zu_atL, zvn]))) (fun o_5 ho_5 => ?_)
    refine zw_if (fun c3 => ?_) (fun c3 => ?_)
    · exact hback_1 _ (by (try dsimp only); (repeat' apply And.intro) <;> first | with_reducible assumption | ((try clear hback_1); first | lia | grind [zu_at, zu_atL, zvn])) (by (try dsimp only); ((try clear hback_1); first | lia | grind [zu_at, zu_atL, zvn])) (by (try dsimp only); ((try clear hback_1); first | lia | grind [zu_at, zu_atL, zvn]))
    exact hback_1 _ (by (try dsimp only); (repeat' apply And.intro) <;> first | with_reducible assumption | ((try clear hback_1); first | lia | grind [zu_at, zu_atL, zvn])) (by (try dsimp only); ((try clear hback_1); first | lia | grind [zu_at, zu_atL, zvn])) (by (try dsimp only); ((try clear hback_1); first | lia | grind [zu_at, zu_atL, zvn]))
  exact hback_1 _ (by (try dsimp only); (repeat' apply And.intro) <;> first | with_reducible assumption | ((try clear hback_1); first | lia | grind [zu_at, zu_atL, zvn])) (by (try dsimp only); ((try clear hback_1); first | lia | grind [zu_at, zu_atL, zvn])) (by (try dsimp only); ((try clear hback_1); first | lia | grind [zu_at, zu_atL, zvn]))
set_option maxHeartbeats 4000000 in
set_option maxRecDepth 100000 in
theorem sf_X1_drawFront (p2 : Int32) (v0_3 : Int32) (v0_6 : Int32) (v0_9 : Int32) (v0_10 : Int32) (v2_0 : Int32) (f3 : Nat → Int32) (n4 : Nat) (f4 : Nat → Int32) (n5 : Nat) (f5 : Nat → Int32) (n6 : Nat) (f6 : Nat → Int32) (n7 : Nat) (f7 : Nat → Int32) (n8 : Nat) (f8 : Nat → Int32) (h_v0_3 : 0 ≤ v0_3 ∧ v0_3 ≤ 14) (h_v0_6 : 0 ≤ v0_6 ∧ v0_6 ≤ 1024) (h_v0_10 : 0 ≤ v0_10 ∧ v0_10 ≤ 1024) (h_v2_0 : 0 ≤ v2_0 ∧ v2_0 ≤ 14) (h_n4 : n4 ≤ 14336) (hN_n4 : 0 ≤ Int32.ofNat n4 ∧ Int32.ofNat n4 ≤ 14336) (h_n5 : n5 ≤ 1024) (hN_n5 : 0 ≤ Int32.ofNat n5 ∧ Int32.ofNat n5 ≤ 1024) (h_n6 : n6 ≤ 1024) (hN_n6 : 0 ≤ Int32.ofNat n6 ∧ Int32.ofNat n6 ≤ 1024) (h_n7 : n7 ≤ 1024) (hN_n7 : 0 ≤ Int32.ofNat n7 ∧ Int32.ofNat n7 ≤ 1024) (h_n8 : n8 ≤ 1024) (hN_n8 : 0 ≤ Int32.ofNat n8 ∧ Int32.ofNat n8 ≤ 1024) (hr_0 : v0_10 ≤ (Int32.ofNat n6)) (hr_1 : v0_10 ≤ (Int32.ofNat n7)) (hr_2 : v0_10 ≤ (Int32.ofNat n8)) (hr_3 : v0_6 ≤ (Int32.ofNat n5)) (hr_4 : (Int32.ofNat n5) ≤ (Int32.ofNat n6)) (hr_5 : (Int32.ofNat n5) ≤ (Int32.ofNat n7)) (hr_6 : (Int32.ofNat n5) ≤ (Int32.ofNat n8)) (hr_7 : (Int32.ofNat n6) ≤ (Int32.ofNat n5)) (hr_8 : (Int32.ofNat n7) ≤ (Int32.ofNat n5)) (hr_9 : (Int32.ofNat n8) ≤ (Int32.ofNat n5)) : zw (fn_X1_drawFront p2 v0_3 v0_6 v0_9 v0_10 v2_0 f3 n4 f4 n5 f5 n6 f6 n7 f7 n8 f8) (fun r => 0 ≤ r.1 ∧ r.1 ≤ 1024 ∧ r.1 ≤ (Int32.ofNat n6) ∧ r.1 ≤ (Int32.ofNat n7) ∧ r.1 ≤ (Int32.ofNat n8)) := by
  unfold fn_X1_drawFront
  refine zw_if (fun c1 => ?_) (fun c1 => ?_)
  · refine zw_some ?_
    first | exact True.intro | ((try dsimp only); (repeat' apply And.intro) <;> first | with_reducible assumption | first | lia | grind [zu_at, zu_atL, zvn])
  refine zw_zb0 (sf_X4_countAnswers p2 v2_0 f3 (by first | with_reducible assumption | exact ⟨by with_reducible assumption, by with_reducible assumption⟩ | first | lia | grind [zu_at, zu_atL, zvn])) (fun o_2 ho_2 => ?_)
  obtain ⟨ho_2_0, ho_2_1, ho_2_2⟩ := ho_2
  refine zw_zl32 (fun s_6 => 0 ≤ s_6.2.1 ∧ s_6.2.1 ≤ 1024 ∧ 0 ≤ s_6.2.2.1 ∧ s_6.2.2.1 ≤ 1024 ∧ s_6.2.1 ≤ s_6.2.2.1 ∧ s_6.2.2.1 ≤ s_6.2.1 ∧ s_6.2.1 ≤ v0_6) (fun s_6 => 1024 - s_6.2.1) (by (try dsimp only); (repeat' apply And.intro) <;> first | with_reducible assumption | first | lia | grind [zu_at, zu_atL, zvn]) (by (try dsimp only); first | lia | grind [zu_at, zu_atL, zvn]) (fun s_6 back_6 Hback_6 hback_6 => ?_)
  obtain ⟨s_6_0, s_6_1, s_6_2, s_6_3, s_6_4, s_6_5⟩ := s_6
  try dsimp only at Hback_6 hback_6
  obtain ⟨Hback_6_0, Hback_6_1, Hback_6_2, Hback_6_3, Hback_6_4, Hback_6_5, Hback_6_6⟩ := Hback_6
  refine zw_if (fun c2 => ?_) (fun c2 => ?_)
  · refine zw_some ?_
    first | exact True.intro | ((try dsimp only); (repeat' apply And.intro) <;> first | with_reducible assumption | ((try clear hback_6); first | lia | grind [zu_at, zu_atL, zvn]))
  refine zw_zb0 (sf_X1_cheapestBelow o_2 s_6_0 v0_3 v0_6 n4 f4 n5 f5 (by first | with_reducible assumption | exact ⟨by with_reducible assumption, by with_reducible assumption⟩ | ((try clear hback_6); first | lia | grind [zu_at, zu_atL, zvn])) (by first | with_reducible assumption | exact ⟨by with_reducible assumption, by with_reducible assumption⟩ | ((try clear hback_6); first | lia | grind [zu_at, zu_atL, zvn])) (by first | with_reducible assumption | exact ⟨by with_reducible assumption, by with_reducible assumption⟩ | ((try clear hback_6); first | lia | grind [zu_at, zu_atL, zvn])) (by first | with_reducible assumption | exact ⟨by with_reducible assumption, by with_reducible assumption⟩ | ((try clear hback_6); first | lia | grind [zu_at, zu_atL, zvn])) (by first | with_reducible assumption | exact ⟨by with_reducible assumption, by with_reducible assumption⟩ | ((try clear hback_6); first | lia | grind [zu_at, zu_atL, zvn])) (by first | with_reducible assumption | exact ⟨by with_reducible assumption, by with_reducible assumption⟩ | ((try clear hback_6); first | lia | grind [zu_at, zu_atL, zvn])) (by first | with_reducible assumption | exact ⟨by with_reducible assumption, by with_reducible assumption⟩ | ((try clear hback_6); first | lia | grind [zu_at, zu_atL, zvn]))) (fun o_8 ho_8 => ?_)
  obtain ⟨ho_8_0, ho_8_1, ho_8_2⟩ := ho_8
  refine zw_if (fun c3 => ?_) (fun c3 => ?_)
  · refine zw_some ?_
    first | exact True.intro | ((try dsimp only); (repeat' apply And.intro) <;> first | with_reducible assumption | ((try clear hback_6); first | lia | grind [zu_at, zu_atL, zvn]))
  refine zw_zb0 (sf_X1_errorAt o_8 o_2 v0_3 n4 f4 (by first | with_reducible assumption | exact ⟨by with_reducible assumption, by with_reducible assumption⟩ | ((try clear hback_6); first | lia | grind [zu_at, zu_atL, zvn])) (by first | with_reducible assumption | exact ⟨by with_reducible assumption, by with_reducible assumption⟩ | ((try clear hback_6); first | lia | grind [zu_at, zu_atL, zvn])) (by first | with_reducible assumption | exact ⟨by with_reducible assumption, by with_reducible assumption⟩ | ((try clear hback_6); first | lia | grind [zu_at, zu_atL, zvn]))) (fun o_13 ho_13 => ?_)
  refine zw_zgN (by (try dsimp only); ((try clear hback_6); first | lia | grind [zu_at, zu_atL, zvn])) (by (try dsimp only); ((try clear hback_6); first | lia | grind [zu_at, zu_atL, zvn])) ?_
  refine zw_zgN (by (try dsimp only); ((try clear hback_6); first | lia | grind [zu_at, zu_atL, zvn])) (by (try dsimp only); ((try clear hback_6); first | lia | grind [zu_at, zu_atL, zvn])) ?_
  refine zw_zn1 ?_
  refine zw_zgN (by (try dsimp only); ((try clear hback_6); first | lia | grind [zu_at, zu_atL, zvn])) (by (try dsimp only); ((try clear hback_6); first | lia | grind [zu_at, zu_atL, zvn])) ?_
  refine zw_zb0 (sf_X1_countAlike o_2 (f5 o_8.toNatClampNeg) o_13 v0_3 v0_6 n5 f5 n4 f4 (by first | with_reducible assumption | exact ⟨by with_reducible assumption, by with_reducible assumption⟩ | ((try clear hback_6); first | lia | grind [zu_at, zu_atL, zvn])) (by first | with_reducible assumption | exact ⟨by with_reducible assumption, by with_reducible assumption⟩ | ((try clear hback_6); first | lia | grind [zu_at, zu_atL, zvn])) (by first | with_reducible assumption | exact ⟨by with_reducible assumption, by with_reducible assumption⟩ | ((try clear hback_6); first | lia | grind [zu_at, zu_atL, zvn])) (by first | with_reducible assumption | exact ⟨by with_reducible assumption, by with_reducible assumption⟩ | ((try clear hback_6); first | lia | grind [zu_at, zu_atL, zvn])) (by first | with_reducible assumption | exact ⟨by with_reducible assumption, by with_reducible assumption⟩ | ((try clear hback_6); first | lia | grind [zu_at, zu_atL, zvn])) (by first | with_reducible assumption | exact ⟨by with_reducible assumption, by with_reducible assumption⟩ | ((try clear hback_6); first | lia | grind [zu_at, zu_atL, zvn])) (by first | with_reducible assumption | exact ⟨by with_reducible assumption, by with_reducible assumption⟩ | ((try clear hback_6); first | lia | grind [zu_at, zu_atL, zvn]))) (fun o_21 ho_21 => ?_)
  obtain ⟨ho_21_0, ho_21_1, ho_21_2⟩ := ho_21
  refine zw_zgN (by (try dsimp only); ((try clear hback_6); first | lia | grind [zu_at, zu_atL, zvn])) (by (try dsimp only); ((try clear hback_6); first | lia | grind [zu_at, zu_atL, zvn])) ?_
  exact hback_6 _ (by (try dsimp only); (repeat' apply And.intro) <;> first | with_reducible assumption | ((try clear hback_6); first | lia | grind [zu_at, zu_atL, zvn])) (by (try dsimp only); ((try clear hback_6); first | lia | grind [zu_at, zu_atL, zvn])) (by (try dsimp only); ((try clear hback_6); first | lia | grind [zu_at, zu_atL, zvn]))
set_option maxHeartbeats 4000000 in
set_option maxRecDepth 100000 in
theorem sf_X2_earlierGroup (p2 : Int32) (f2 : Nat → Int32) (f3 : Nat → Int32) (h_p2 : 0 ≤ p2 ∧ p2 ≤ 13) (h_f3 : (∀ i : Nat, 0 ≤ f3 i ∧ f3 i ≤ 13)) : zw (fn_X2_earlierGroup p2 f2 f3) (fun r => (-1) ≤ r ∧ r ≤ 13) := by
  unfold fn_X2_earlierGroup
  refine zw_zl32 (fun s_1 => 0 ≤ s_1 ∧ s_1 ≤ 13 ∧ s_1 ≤ p2) (fun s_1 => 13 - s_1) (by (try dsimp only); (repeat' apply And.intro) <;> first | with_reducible assumption | first | lia | grind [zu_at, zu_atL, zvn]) (by (try dsimp only); first | lia | grind [zu_at, zu_atL, zvn]) (fun s_1 back_1 Hback_1 hback_1 => ?_)
  obtain ⟨Hback_1_0, Hback_1_1, Hback_1_2⟩ := Hback_1
  refine zw_if (fun c1 => ?_) (fun c1 => ?_)
  · refine zw_some ?_
    first | exact True.intro | ((try dsimp only); (repeat' apply And.intro) <;> first | with_reducible assumption | ((try clear hback_1); first | lia | grind [zu_at, zu_atL, zvn]))
  refine zw_zg32 14 (by decide) (by (try dsimp only); ((try clear hback_1); first | lia | grind [zu_at, zu_atL, zvn])) ?_
  refine zw_zg32 14 (by decide) (by (try dsimp only); ((try clear hback_1); first | lia | grind [zu_at, zu_atL, zvn])) ?_
  refine zw_if (fun c2 => ?_) (fun c2 => ?_)
  · refine zw_some ?_
    first | exact True.intro | ((try dsimp only); (repeat' apply And.intro) <;> first | with_reducible assumption | ((try clear hback_1); first | lia | grind [zu_at, zu_atL, zvn]))
  exact hback_1 _ (by (try dsimp only); (repeat' apply And.intro) <;> first | with_reducible assumption | ((try clear hback_1); first | lia | grind [zu_at, zu_atL, zvn])) (by (try dsimp only); ((try clear hback_1); first | lia | grind [zu_at, zu_atL, zvn])) (by (try dsimp only); ((try clear hback_1); first | lia | grind [zu_at, zu_atL, zvn]))
set_option maxHeartbeats 4000000 in
set_option maxRecDepth 100000 in
theorem sf_X2_fix (p1 : Int32) (p2 : Int32) (v0_2 : Int32) (f1 : Nat → Int32) (h_p1 : 0 ≤ p1 ∧ p1 ≤ 13) (h_v0_2 : 0 ≤ v0_2 ∧ v0_2 ≤ 1) : zw (fn_X2_fix p1 p2 v0_2 f1) (fun r => 0 ≤ r.1 ∧ r.1 ≤ 1) := by
  unfold fn_X2_fix
  refine zw_if (fun c1 => ?_) (fun c1 => ?_)
  · refine zw_some ?_
    first | exact True.intro | ((try dsimp only); (repeat' apply And.intro) <;> first | with_reducible assumption | first | lia | grind [zu_at, zu_atL, zvn])
  refine zw_zg32 14 (by decide) (by (try dsimp only); first | lia | grind [zu_at, zu_atL, zvn]) ?_
  refine zw_if (fun c2 => ?_) (fun c2 => ?_)
  · refine zw_some ?_
    first | exact True.intro | ((try dsimp only); (repeat' apply And.intro) <;> first | with_reducible assumption | first | lia | grind [zu_at, zu_atL, zvn])
  refine zw_zj (fun s_4 => 0 ≤ s_4 ∧ s_4 ≤ 1 ∧ v0_2 ≤ s_4) (fun s_4 Hj_4 => ?_) (fun j_4 hj_4 => ?_)
  · obtain ⟨Hj_4_0, Hj_4_1, Hj_4_2⟩ := Hj_4
    refine zw_zt (by (try dsimp only); ((try clear hj_4); first | lia | grind [zu_at, zu_atL, zvn])) ?_
    refine zw_zg32 14 (by decide) (by (try dsimp only); ((try clear hj_4); first | lia | grind [zu_at, zu_atL, zvn])) ?_
    refine zw_if (fun c3 => ?_) (fun c3 => ?_)
    · refine zw_some ?_
      first | exact True.intro | ((try dsimp only); (repeat' apply And.intro) <;> first | with_reducible assumption | ((try clear hj_4); first | lia | grind [zu_at, zu_atL, zvn]))
    refine zw_some ?_
    first | exact True.intro | ((try dsimp only); (repeat' apply And.intro) <;> first | with_reducible assumption | ((try clear hj_4); first | lia | grind [zu_at, zu_atL, zvn]))
  refine zw_zj (fun _ => True) (fun s_8 Hj_8 => ?_) (fun j_8 hj_8 => ?_)
  · exact hj_4 _ (by first | exact True.intro | ((try dsimp only); (repeat' apply And.intro) <;> first | with_reducible assumption | ((try clear hj_4); (try clear hj_8); first | lia | grind [zu_at, zu_atL, zvn])))
  refine zw_if (fun c4 => ?_) (fun c4 => ?_)
  · refine zw_if (fun c5 => ?_) (fun c5 => ?_)
    · exact hj_4 _ (by first | exact True.intro | ((try dsimp only); (repeat' apply And.intro) <;> first | with_reducible assumption | ((try clear hj_4); (try clear hj_8); first | lia | grind [zu_at, zu_atL, zvn])))
    exact hj_8 _ (by first | exact True.intro | ((try dsimp only); (repeat' apply And.intro) <;> first | with_reducible assumption | ((try clear hj_4); (try clear hj_8); first | lia | grind [zu_at, zu_atL, zvn])))
  exact hj_8 _ (by first | exact True.intro | ((try dsimp only); (repeat' apply And.intro) <;> first | with_reducible assumption | ((try clear hj_4); (try clear hj_8); first | lia | grind [zu_at, zu_atL, zvn])))
set_option maxHeartbeats 4000000 in
set_option maxRecDepth 100000 in
theorem sf_X2_gather (v1_0 : Int32) (f2 : Nat → Int32) (f3 : Nat → Int32) (f4 : Nat → Int32) (f5 : Nat → Int32) (f6 : Nat → Int32) (h_v1_0 : 0 ≤ v1_0 ∧ v1_0 ≤ 14) (h_f3 : (∀ i : Nat, 0 ≤ f3 i ∧ f3 i ≤ 13)) : zw (fn_X2_gather v1_0 f2 f3 f4 f5 f6) (fun r => 0 ≤ r.1 ∧ r.1 ≤ 14 ∧ 0 ≤ r.2.1 ∧ r.2.1 ≤ 14 ∧ 0 ≤ r.2.2.1 ∧ r.2.2.1 ≤ 1 ∧ (∀ i : Nat, 0 ≤ r.2.2.2.1 i ∧ r.2.2.2.1 i ≤ 13)) := by
  unfold fn_X2_gather
  refine zw_zl32 (fun s_1 => (∀ i : Nat, 0 ≤ s_1.2.2.2.1 i ∧ s_1.2.2.2.1 i ≤ 13) ∧ 0 ≤ s_1.1 ∧ s_1.1 ≤ 14 ∧ 0 ≤ s_1.2.1 ∧ s_1.2.1 ≤ 14 ∧ 0 ≤ s_1.2.2.1 ∧ s_1.2.2.1 ≤ 1 ∧ s_1.1 ≤ v1_0 ∧ s_1.2.1 ≤ v1_0 ∧ s_1.2.1 ≤ s_1.1 ∧ s_1.2.2.1 ≤ v1_0 ∧ s_1.2.2.1 ≤ s_1.1) (fun s_1 => 14 - s_1.1) (by (try dsimp only); (repeat' apply And.intro) <;> first | with_reducible assumption | first | lia | grind [zu_at, zu_atL, zvn]) (by (try dsimp only); first | lia | grind [zu_at, zu_atL, zvn]) (fun s_1 back_1 Hback_1 hback_1 => ?_)
  obtain ⟨s_1_0, s_1_1, s_1_2, s_1_3, s_1_4, s_1_5⟩ := s_1
  try dsimp only at Hback_1 hback_1
  obtain ⟨Hback_1_0, Hback_1_1, Hback_1_2, Hback_1_3, Hback_1_4, Hback_1_5, Hback_1_6, Hback_1_7, Hback_1_8, Hback_1_9, Hback_1_10, Hback_1_11⟩ := Hback_1
  refine zw_if (fun c1 => ?_) (fun c1 => ?_)
  · refine zw_zl32 (fun s_3 => 0 ≤ s_3.1 ∧ 0 ≤ s_3.2 ∧ s_3.1 ≤ 14 ∧ s_3.2 ≤ 14 ∧ s_3.1 ≤ v1_0 ∧ s_3.2 ≤ v1_0 ∧ s_3.2 ≤ s_3.1 ∧ s_3.1 ≤ s_1_1) (fun s_3 => 14 - s_3.1) (by (try dsimp only); (repeat' apply And.intro) <;> first | with_reducible assumption | ((try clear hback_1); first | lia | grind [zu_at, zu_atL, zvn])) (by (try dsimp only); ((try clear hback_1); first | lia | grind [zu_at, zu_atL, zvn])) (fun s_3 back_3 Hback_3 hback_3 => ?_)
    obtain ⟨s_3_0, s_3_1⟩ := s_3
    try dsimp only at Hback_3 hback_3
    obtain ⟨Hback_3_0, Hback_3_1, Hback_3_2, Hback_3_3, Hback_3_4, Hback_3_5, Hback_3_6, Hback_3_7⟩ := Hback_3
    refine zw_if (fun c2 => ?_) (fun c2 => ?_)
    · refine zw_some ?_
      first | exact True.intro | ((try dsimp only); (repeat' apply And.intro) <;> first | with_reducible assumption | ((try clear hback_1); (try clear hback_3); first | lia | grind [zu_at, zu_atL, zvn]))
    refine zw_zg32 14 (by decide) (by (try dsimp only); ((try clear hback_1); (try clear hback_3); first | lia | grind [zu_at, zu_atL, zvn])) ?_
    refine zw_if (fun c3 => ?_) (fun c3 => ?_)
    · exact hback_3 _ (by (try dsimp only); (repeat' apply And.intro) <;> first | with_reducible assumption | ((try clear hback_1); (try clear hback_3); first | lia | grind [zu_at, zu_atL, zvn])) (by (try dsimp only); ((try clear hback_1); (try clear hback_3); first | lia | grind [zu_at, zu_atL, zvn])) (by (try dsimp only); ((try clear hback_1); (try clear hback_3); first | lia | grind [zu_at, zu_atL, zvn]))
    exact hback_3 _ (by (try dsimp only); (repeat' apply And.intro) <;> first | with_reducible assumption | ((try clear hback_1); (try clear hback_3); first | lia | grind [zu_at, zu_atL, zvn])) (by (try dsimp only); ((try clear hback_1); (try clear hback_3); first | lia | grind [zu_at, zu_atL, zvn])) (by (try dsimp only); ((try clear hback_1); (try clear hback_3); first | lia | grind [zu_at, zu_atL, zvn]))
  refine zw_zb0 (sf_X2_earlierGroup s_1_0 f2 s_1_3 (by first | with_reducible assumption | exact ⟨by with_reducible assumption, by with_reducible assumption⟩ | ((try clear hback_1); (try clear hback_3); first | lia | grind [zu_at, zu_atL, zvn])) (by first | with_reducible assumption | exact ⟨by with_reducible assumption, by with_reducible assumption⟩ | ((try clear hback_1); (try clear hback_3); first | lia | grind [zu_at, zu_atL, zvn]))) (fun o_7 ho_7 => ?_)
  obtain ⟨ho_7_0, ho_7_1⟩ := ho_7
  refine zw_zg32 14 (by decide) (by (try dsimp only); ((try clear hback_1); (try clear hback_3); first | lia | grind [zu_at, zu_atL, zvn])) ?_
  refine zw_zj (fun s_12 => (∀ i : Nat, 0 ≤ s_12.2.1 i ∧ s_12.2.1 i ≤ 13) ∧ 0 ≤ s_12.1 ∧ s_12.1 ≤ 14 ∧ s_12.1 ≤ v1_0 ∧ s_1_1 ≤ s_12.1 ∧ s_12.1 ≤ s_1_0 + 1 ∧ s_12.1 ≤ s_1_1 + 1) (fun s_12 Hj_12 => ?_) (fun j_12 hj_12 => ?_)
  · obtain ⟨s_12_0, s_12_1, s_12_2, s_12_3⟩ := s_12
    try dsimp only at Hj_12
    obtain ⟨Hj_12_0, Hj_12_1, Hj_12_2, Hj_12_3, Hj_12_4, Hj_12_5, Hj_12_6⟩ := Hj_12
    refine zw_zg32 14 (by decide) (by (try dsimp only); ((try clear hback_1); (try clear hback_3); (try clear hj_12); first | lia | grind [zu_at, zu_atL, zvn])) ?_
    refine zw_zb0 (sf_X2_fix (s_12_1 s_1_0.toNatClampNeg) (f6 s_1_0.toNatClampNeg) s_1_2 s_12_2 (by first | with_reducible assumption | exact ⟨by with_reducible assumption, by with_reducible assumption⟩ | ((try clear hback_1); (try clear hback_3); (try clear hj_12); first | lia | grind [zu_at, zu_atL, zvn])) (by first | with_reducible assumption | exact ⟨by with_reducible assumption, by with_reducible assumption⟩ | ((try clear hback_1); (try clear hback_3); (try clear hj_12); first | lia | grind [zu_at, zu_atL, zvn]))) (fun o_14 ho_14 => ?_)
    obtain ⟨o_14_0, o_14_1⟩ := o_14
    try dsimp only at ho_14
    obtain ⟨ho_14_0, ho_14_1⟩ := ho_14
    exact hback_1 _ (by (try dsimp only); (repeat' apply And.intro) <;> first | with_reducible assumption | ((try clear hback_1); (try clear hback_3); (try clear hj_12); first | lia | grind [zu_at, zu_atL, zvn])) (by (try dsimp only); ((try clear hback_1); (try clear hback_3); (try clear hj_12); first | lia | grind [zu_at, zu_atL, zvn])) (by (try dsimp only); ((try clear hback_1); (try clear hback_3); (try clear hj_12); first | lia | grind [zu_at, zu_atL, zvn]))
  refine zw_if (fun c4 => ?_) (fun c4 => ?_)
  · refine zw_zn1 ?_
    refine zw_zg32 14 (by decide) (by (try dsimp only); ((try clear hback_1); (try clear hback_3); (try clear hj_12); first | lia | grind [zu_at, zu_atL, zvn])) ?_
    exact hj_12 _ (by first | exact True.intro | ((try dsimp only); (repeat' apply And.intro) <;> first | with_reducible assumption | ((try clear hback_1); (try clear hback_3); (try clear hj_12); first | lia | grind [zu_at, zu_atL, zvn])))
  exact hj_12 _ (by first | exact True.intro | ((try dsimp only); (repeat' apply And.intro) <;> first | with_reducible assumption | ((try clear hback_1); (try clear hback_3); (try clear hj_12); first | lia | grind [zu_at, zu_atL, zvn])))
set_option maxHeartbeats 4000000 in
set_option maxRecDepth 100000 in
theorem sf_X2_isFree (p1 : Int32) (v0_0 : Int32) (f1 : Nat → Int32) (h_v0_0 : 0 ≤ v0_0 ∧ v0_0 ≤ 14) : zw (fn_X2_isFree p1 v0_0 f1) (fun r => 0 ≤ r ∧ r ≤ 1 ∧ r ≤ v0_0 ∧ (¬ r = 0 → 0 ≤ p1 ∧ 1 ≤ r ∧ p1 ≤ 13 ∧ p1 < v0_0 ∧ (f1 p1.toNatClampNeg) ≤ (-1) ∧ (-1) ≤ (f1 p1.toNatClampNeg)) ∧ (r = 1 → 0 ≤ p1 ∧ p1 ≤ 13 ∧ 1 ≤ v0_0 ∧ p1 < v0_0 ∧ (f1 p1.toNatClampNeg) ≤ (-1) ∧ (-1) ≤ (f1 p1.toNatClampNeg) ∧ (f1 p1.toNatClampNeg) + 2 ≤ r) ∧ (¬ r = 1 → r ≤ 0)) := by
  unfold fn_X2_isFree
  refine zw_if (fun c1 => ?_) (fun c1 => ?_)
  · refine zw_some ?_
    first | exact True.intro | ((try dsimp only); (repeat' apply And.intro) <;> first | with_reducible assumption | first | lia | grind [zu_at, zu_atL, zvn])
  refine zw_if (fun c2 => ?_) (fun c2 => ?_)
  · refine zw_some ?_
    first | exact True.intro | ((try dsimp only); (repeat' apply And.intro) <;> first | with_reducible assumption | first | lia | grind [zu_at, zu_atL, zvn])
  refine zw_zg32 14 (by decide) (by (try dsimp only); first | lia | grind [zu_at, zu_atL, zvn]) ?_
  refine zw_if (fun c3 => ?_) (fun c3 => ?_)
  · refine zw_some ?_
    first | exact True.intro | ((try dsimp only); (repeat' apply And.intro) <;> first | with_reducible assumption | first | lia | grind [zu_at, zu_atL, zvn])
  refine zw_some ?_
  first | exact True.intro | ((try dsimp only); (repeat' apply And.intro) <;> first | with_reducible assumption | first | lia | grind [zu_at, zu_atL, zvn])
set_option maxHeartbeats 4000000 in
set_option maxRecDepth 100000 in
theorem sf_X2_leaderOf (p1 : Int32) (v0_0 : Int32) (f1 : Nat → Int32) (h_v0_0 : 0 ≤ v0_0 ∧ v0_0 ≤ 14) : zw (fn_X2_leaderOf p1 v0_0 f1) (fun r => True) := by
  unfold fn_X2_leaderOf
  refine zw_if (fun c1 => ?_) (fun c1 => ?_)
  · refine zw_some ?_
    first | exact True.intro | ((try dsimp only); (repeat' apply And.intro) <;> first | with_reducible assumption | first | lia | grind [zu_at, zu_atL, zvn])
  refine zw_if (fun c2 => ?_) (fun c2 => ?_)
  · refine zw_some ?_
    first | exact True.intro | ((try dsimp only); (repeat' apply And.intro) <;> first | with_reducible assumption | first | lia | grind [zu_at, zu_atL, zvn])
  refine zw_zg32 14 (by decide) (by (try dsimp only); first | lia | grind [zu_at, zu_atL, zvn]) ?_
  refine zw_some ?_
  first | exact True.intro | ((try dsimp only); (repeat' apply And.intro) <;> first | with_reducible assumption | first | lia | grind [zu_at, zu_atL, zvn])
set_option maxHeartbeats 4000000 in
set_option maxRecDepth 100000 in
theorem sf_X3_forget  : zw (fn_X3_forget) (fun r => 0 ≤ r ∧ r ≤ 1 ∧ r ≤ 0) := by
  unfold fn_X3_forget
  refine zw_some ?_
  first | exact True.intro | ((try dsimp only); (repeat' apply And.intro) <;> first | with_reducible assumption | first | lia | grind [zu_at, zu_atL, zvn])
set_option maxHeartbeats 4000000 in
set_option maxRecDepth 100000 in
theorem sf_X9_finestFormat (v0_0 : Int32) (f1 : Nat → Int32) (h_v0_0 : 0 ≤ v0_0 ∧ v0_0 ≤ 4) : zw (fn_X9_finestFormat v0_0 f1) (fun r => 0 ≤ r ∧ r ≤ 3 ∧ r ≤ v0_0) := by
  unfold fn_X9_finestFormat
  refine zw_zl32 (fun s_1 => 0 ≤ s_1.1 ∧ 1 ≤ s_1.2 ∧ s_1.1 ≤ 3 ∧ s_1.2 ≤ 4 ∧ s_1.1 ≤ v0_0 ∧ s_1.1 < s_1.2 ∧ s_1.2 ≤ v0_0 + 1) (fun s_1 => 4 - s_1.2) (by (try dsimp only); first | with_reducible assumption | grind [zu_at, zu_atL, zvn] | ((repeat' apply And.intro) <;> first | with_reducible assumption | first | lia | grind [zu_at, zu_atL, zvn])) (by (try dsimp only); first | lia | grind [zu_at, zu_atL, zvn]) (fun s_1 back_1 Hback_1 hback_1 => ?_)
  obtain ⟨s_1_0, s_1_1⟩ := s_1
  try dsimp only at Hback_1 hback_1
  obtain ⟨Hback_1_0, Hback_1_1, Hback_1_2, Hback_1_3, Hback_1_4, Hback_1_5, Hback_1_6⟩ := Hback_1
  refine zw_if (fun c1 => ?_) (fun c1 => ?_)
  · refine zw_some ?_
    first | exact True.intro | ((try dsimp only); first | with_reducible assumption | grind [zu_at, zu_atL, zvn] | ((repeat' apply And.intro) <;> first | with_reducible assumption | ((try clear hback_1); first | lia | grind [zu_at, zu_atL, zvn])))
  refine zw_zg32 4 (by decide) (by (try dsimp only); ((try clear hback_1); first | lia | grind [zu_at, zu_atL, zvn])) ?_
  refine zw_zg32 4 (by decide) (by (try dsimp only); ((try clear hback_1); first | lia | grind [zu_at, zu_atL, zvn])) ?_
  refine zw_if (fun c2 => ?_) (fun c2 => ?_)
  · exact hback_1 _ (by (try dsimp only); first | with_reducible assumption | grind [zu_at, zu_atL, zvn] | ((repeat' apply And.intro) <;> first | with_reducible assumption | ((try clear hback_1); first | lia | grind [zu_at, zu_atL, zvn]))) (by (try dsimp only); ((try clear hback_1); first | lia | grind [zu_at, zu_atL, zvn])) (by (try dsimp only); ((try clear hback_1); first | lia | grind [zu_at, zu_atL, zvn]))
  exact hback_1 _ (by (try dsimp only); first | with_reducible assumption | grind [zu_at, zu_atL, zvn] | ((repeat' apply And.intro) <;> first | with_reducible assumption | ((try clear hback_1); first | lia | grind [zu_at, zu_atL, zvn]))) (by (try dsimp only); ((try clear hback_1); first | lia | grind [zu_at, zu_atL, zvn])) (by (try dsimp only); ((try clear hback_1); first | lia | grind [zu_at, zu_atL, zvn]))
set_option maxHeartbeats 4000000 in
set_option maxRecDepth 100000 in
theorem sf_X3_findUnchanged (v2_0 : Int32) (f3 : Nat → Int32) (f4 : Nat → Int32) (f5 : Nat → Int32) (h_v2_0 : 0 ≤ v2_0 ∧ v2_0 ≤ 14) (h_f4 : (∀ i : Nat, 0 ≤ f4 i ∧ f4 i ≤ 1)) (h_f5 : (∀ i : Nat, 0 ≤ f5 i ∧ f5 i ≤ 13)) : zw (fn_X3_findUnchanged v2_0 f3 f4 f5) (fun r => (∀ i : Nat, 0 ≤ r.2 i ∧ r.2 i ≤ 13) ∧ 0 ≤ r.1 ∧ r.1 ≤ 14) := by
  unfold fn_X3_findUnchanged
  refine zw_zl32 (fun s_1 => (∀ i : Nat, 0 ≤ s_1.2.2 i ∧ s_1.2.2 i ≤ 13) ∧ 0 ≤ s_1.1 ∧ s_1.1 ≤ 14 ∧ 0 ≤ s_1.2.1 ∧ s_1.2.1 ≤ 14 ∧ s_1.1 ≤ v2_0 ∧ s_1.2.1 ≤ v2_0 ∧ s_1.1 ≤ s_1.2.1) (fun s_1 => 14 - s_1.2.1) (by (try dsimp only); (repeat' apply And.intro) <;> first | with_reducible assumption | first | lia | grind [zu_at, zu_atL, zvn]) (by (try dsimp only); first | lia | grind [zu_at, zu_atL, zvn]) (fun s_1 back_1 Hback_1 hback_1 => ?_)
  obtain ⟨s_1_0, s_1_1, s_1_2⟩ := s_1
  try dsimp only at Hback_1 hback_1
  obtain ⟨Hback_1_0, Hback_1_1, Hback_1_2, Hback_1_3, Hback_1_4, Hback_1_5, Hback_1_6, Hback_1_7⟩ := Hback_1
  refine zw_if (fun c1 => ?_) (fun c1 => ?_)
  · refine zw_some ?_
    first | exact True.intro | ((try dsimp only); (repeat' apply And.intro) <;> first | with_reducible assumption | ((try clear hback_1); first | lia | grind [zu_at, zu_atL, zvn]))
  refine zw_zg32 14 (by decide) (by (try dsimp only); ((try clear hback_1); first | lia | grind [zu_at, zu_atL, zvn])) ?_
  refine zw_if (fun c2 => ?_) (fun c2 => ?_)
  · refine zw_if (fun c3 => ?_) (fun c3 => ?_)
    · refine zw_zg32 14 (by decide) (by (try dsimp only); ((try clear hback_1); first | lia | grind [zu_at, zu_atL, zvn])) ?_
      exact hback_1 _ (by (try dsimp only); (repeat' apply And.intro) <;> first | with_reducible assumption | ((try clear hback_1); first | lia | grind [zu_at, zu_atL, zvn])) (by (try dsimp only); ((try clear hback_1); first | lia | grind [zu_at, zu_atL, zvn])) (by (try dsimp only); ((try clear hback_1); first | lia | grind [zu_at, zu_atL, zvn]))
    exact hback_1 _ (by (try dsimp only); (repeat' apply And.intro) <;> first | with_reducible assumption | ((try clear hback_1); first | lia | grind [zu_at, zu_atL, zvn])) (by (try dsimp only); ((try clear hback_1); first | lia | grind [zu_at, zu_atL, zvn])) (by (try dsimp only); ((try clear hback_1); first | lia | grind [zu_at, zu_atL, zvn]))
  exact hback_1 _ (by (try dsimp only); (repeat' apply And.intro) <;> first | with_reducible assumption | ((try clear hback_1); first | lia | grind [zu_at, zu_atL, zvn])) (by (try dsimp only); ((try clear hback_1); first | lia | grind [zu_at, zu_atL, zvn])) (by (try dsimp only); ((try clear hback_1); first | lia | grind [zu_at, zu_atL, zvn]))
set_option maxHeartbeats 4000000 in
set_option maxRecDepth 100000 in
theorem sf_X3_addPart (p1 : Int32) (p2 : Int32) (v0_8 : Int32) (f1 : Nat → Int32) (f2 : Nat → Int32) (h_p1 : 0 ≤ p1 ∧ p1 ≤ 14) (h_p2 : 0 ≤ p2 ∧ p2 ≤ 14) (h_v0_8 : 0 ≤ v0_8 ∧ v0_8 ≤ 28) (h_f1 : (∀ i : Nat, 0 ≤ f1 i ∧ f1 i ≤ 14)) (h_f2 : (∀ i : Nat, 0 ≤ f2 i ∧ f2 i ≤ 14)) : zw (fn_X3_addPart p1 p2 v0_8 f1 f2) (fun r => 0 ≤ r.1 ∧ r.1 ≤ 28 ∧ (∀ i : Nat, 0 ≤ r.2.1 i ∧ r.2.1 i ≤ 14) ∧ (∀ i : Nat, 0 ≤ r.2.2 i ∧ r.2.2 i ≤ 14) ∧ 1 ≤ r.1) := by
  unfold fn_X3_addPart
  refine zw_if (fun c1 => ?_) (fun c1 => ?_)
  · refine zw_some ?_
    first | exact True.intro | ((try dsimp only); (repeat' apply And.intro) <;> first | with_reducible assumption | first | lia | grind [zu_at, zu_atL, zvn])
  refine zw_zg32 28 (by decide) (by (try dsimp only); first | lia | grind [zu_at, zu_atL, zvn]) ?_
  refine zw_some ?_
  first | exact True.intro | ((try dsimp only); (repeat' apply And.intro) <;> first | with_reducible assumption | first | lia | grind [zu_at, zu_atL, zvn])
set_option maxHeartbeats 4000000 in
set_option maxRecDepth 100000 in
theorem sf_X3_setPart (p1 : Int32) (p2 : Int32) (p3 : Int32) (f1 : Nat → Int32) (f2 : Nat → Int32) (h_p1 : 0 ≤ p1 ∧ p1 ≤ 14) (h_p2 : 0 ≤ p2 ∧ p2 ≤ 14) (h_f1 : (∀ i : Nat, 0 ≤ f1 i ∧ f1 i ≤ 13)) : zw (fn_X3_setPart p1 p2 p3 f1 f2) (fun r => True) := by
  unfold fn_X3_setPart
  refine zw_zl32 (fun s_1 => 0 ≤ s_1.1 ∧ s_1.1 ≤ 14 ∧ p1 ≤ s_1.1) (fun s_1 => 14 - s_1.1) (by (try dsimp only); (repeat' apply And.intro) <;> first | with_reducible assumption | first | lia | grind [zu_at, zu_atL, zvn]) (by (try dsimp only); first | lia | grind [zu_at, zu_atL, zvn]) (fun s_1 back_1 Hback_1 hback_1 => ?_)
  obtain ⟨s_1_0, s_1_1⟩ := s_1
  try dsimp only at Hback_1 hback_1
  obtain ⟨Hback_1_0, Hback_1_1, Hback_1_2⟩ := Hback_1
  refine zw_if (fun c1 => ?_) (fun c1 => ?_)
  · refine zw_some ?_
    first | exact True.intro | ((try dsimp only); (repeat' apply And.intro) <;> first | with_reducible assumption | ((try clear hback_1); first | lia | grind [zu_at, zu_atL, zvn]))
  refine zw_zg32 14 (by decide) (by (try dsimp only); ((try clear hback_1); first | lia | grind [zu_at, zu_atL, zvn])) ?_
  refine zw_zg32 14 (by decide) (by (try dsimp only); ((try clear hback_1); first | lia | grind [zu_at, zu_atL, zvn])) ?_
  exact hback_1 _ (by (try dsimp only); (repeat' apply And.intro) <;> first | with_reducible assumption | ((try clear hback_1); first | lia | grind [zu_at, zu_atL, zvn])) (by (try dsimp only); ((try clear hback_1); first | lia | grind [zu_at, zu_atL, zvn])) (by (try dsimp only); ((try clear hback_1); first | lia | grind [zu_at, zu_atL, zvn]))
set_option maxHeartbeats 4000000 in
set_option maxRecDepth 100000 in
theorem sf_X3_changePart (p2 : Int32) (p3 : Int32) (p4 : Int32) (p5 : Int32) (v0_10 : Int32) (f1 : Nat → Int32) (f2 : Nat → Int32) (v3_0 : Int32) (v3_5 : Int32) (v4_0 : Int32) (f5 : Nat → Int32) (f7 : Nat → Int32) (f8 : Nat → Int32) (v9_1 : Int32) (v9_2 : Int32) (f10 : Nat → Int32) (f11 : Nat → Int32) (f12 : Nat → Int64) (f13 : Nat → Int32) (f15 : Nat → Int64) (f16 : Nat → Int64) (f17 : Nat → Int32) (f18 : Nat → Int32) (f19 : Nat → Int32) (h_p2 : 0 ≤ p2 ∧ p2 ≤ 14) (h_p3 : 0 ≤ p3 ∧ p3 ≤ 14) (h_f1 : (∀ i : Nat, 0 ≤ f1 i ∧ f1 i ≤ 13)) (h_v3_0 : 0 ≤ v3_0 ∧ v3_0 ≤ 4) (h_v4_0 : 0 ≤ v4_0 ∧ v4_0 ≤ 14) (h_f7 : (∀ i : Nat, 0 ≤ f7 i ∧ f7 i ≤ 13)) (h_f19 : (∀ i : Nat, 0 ≤ f19 i ∧ f19 i ≤ 1)) : zw (fn_X3_changePart p2 p3 p4 p5 v0_10 f1 f2 v3_0 v3_5 v4_0 f5 f7 f8 v9_1 v9_2 f10 f11 f12 f13 f15 f16 f17 f18 f19) (fun r => 0 ≤ r.1 ∧ r.1 ≤ 1 ∧ (∀ i : Nat, 0 ≤ r.2.2.2.2.2.2 i ∧ r.2.2.2.2.2.2 i ≤ 1)) := by
  unfold fn_X3_changePart
  refine zw_zb0 (sf_X3_setPart p2 p3 p4 f1 f2 (by first | with_reducible assumption | exact ⟨by with_reducible assumption, by with_reducible assumption⟩ | first | lia | grind [zu_at, zu_atL, zvn]) (by first | with_reducible assumption | exact ⟨by with_reducible assumption, by with_reducible assumption⟩ | first | lia | grind [zu_at, zu_atL, zvn]) (by first | with_reducible assumption | exact ⟨by with_reducible assumption, by with_reducible assumption⟩ | first | lia | grind [zu_at, zu_atL, zvn])) (fun o_1 ho_1 => ?_)
  refine zw_zb0 (sf_X9_priceOf v3_0 v3_5 v4_0 f5 f7 o_1 f8 (by first | with_reducible assumption | exact ⟨by with_reducible assumption, by with_reducible assumption⟩ | first | lia | grind [zu_at, zu_atL, zvn]) (by first | with_reducible assumption | exact ⟨by with_reducible assumption, by with_reducible assumption⟩ | first | lia | grind [zu_at, zu_atL, zvn]) (by first | with_reducible assumption | exact ⟨by with_reducible assumption, by with_reducible assumption⟩ | first | lia | grind [zu_at, zu_atL, zvn])) (fun o_5 ho_5 => ?_)
  refine zw_if (fun c1 => ?_) (fun c1 => ?_)
  · refine zw_zb0 (sf_X3_setPart p2 p3 p5 f1 o_1 (by first | with_reducible assumption | exact ⟨by with_reducible assumption, by with_reducible assumption⟩ | first | lia | grind [zu_at, zu_atL, zvn]) (by first | with_reducible assumption | exact ⟨by with_reducible assumption, by with_reducible assumption⟩ | first | lia | grind [zu_at, zu_atL, zvn]) (by first | with_reducible assumption | exact ⟨by with_reducible assumption, by with_reducible assumption⟩ | first | lia | grind [zu_at, zu_atL, zvn])) (fun o_10 ho_10 => ?_)
    refine zw_some ?_
    first | exact True.intro | ((try dsimp only); (repeat' apply And.intro) <;> first | with_reducible assumption | first | lia | grind [zu_at, zu_atL, zvn])
  refine zw_zb0 (sf_X7_reckon v3_0 v4_0 f7 o_1 f10 f11 f5 f12 f13 f15 f16 f17 f18 (by first | with_reducible assumption | exact ⟨by with_reducible assumption, by with_reducible assumption⟩ | first | lia | grind [zu_at, zu_atL, zvn]) (by first | with_reducible assumption | exact ⟨by with_reducible assumption, by with_reducible assumption⟩ | first | lia | grind [zu_at, zu_atL, zvn]) (by first | with_reducible assumption | exact ⟨by with_reducible assumption, by with_reducible assumption⟩ | first | lia | grind [zu_at, zu_atL, zvn])) (fun o_14 ho_14 => ?_)
  obtain ⟨o_14_0, o_14_1, o_14_2, o_14_3⟩ := o_14
  try dsimp only at ho_14
  obtain ⟨ho_14_0, ho_14_1, ho_14_2, ho_14_3, ho_14_4, ho_14_5, ho_14_6, ho_14_7, ho_14_8, ho_14_9, ho_14_10, ho_14_11⟩ := ho_14
  refine zw_if (fun c2 => ?_) (fun c2 => ?_)
  · refine zw_zb0 (sf_X3_setPart p2 p3 p5 f1 o_1 (by first | with_reducible assumption | exact ⟨by with_reducible assumption, by with_reducible assumption⟩ | first | lia | grind [zu_at, zu_atL, zvn]) (by first | with_reducible assumption | exact ⟨by with_reducible assumption, by with_reducible assumption⟩ | first | lia | grind [zu_at, zu_atL, zvn]) (by first | with_reducible assumption | exact ⟨by with_reducible assumption, by with_reducible assumption⟩ | first | lia | grind [zu_at, zu_atL, zvn])) (fun o_24 ho_24 => ?_)
    refine zw_some ?_
    first | exact True.intro | ((try dsimp only); (repeat' apply And.intro) <;> first | with_reducible assumption | first | lia | grind [zu_at, zu_atL, zvn])
  refine zw_zl32 (fun s_19 => (∀ i : Nat, 0 ≤ s_19.2 i ∧ s_19.2 i ≤ 1) ∧ 0 ≤ s_19.1 ∧ s_19.1 ≤ 14 ∧ p2 ≤ s_19.1) (fun s_19 => 14 - s_19.1) (by (try dsimp only); (repeat' apply And.intro) <;> first | with_reducible assumption | first | lia | grind [zu_at, zu_atL, zvn]) (by (try dsimp only); first | lia | grind [zu_at, zu_atL, zvn]) (fun s_19 back_19 Hback_19 hback_19 => ?_)
  obtain ⟨s_19_0, s_19_1⟩ := s_19
  try dsimp only at Hback_19 hback_19
  obtain ⟨Hback_19_0, Hback_19_1, Hback_19_2, Hback_19_3⟩ := Hback_19
  refine zw_if (fun c3 => ?_) (fun c3 => ?_)
  · refine zw_some ?_
    first | exact True.intro | ((try dsimp only); (repeat' apply And.intro) <;> first | with_reducible assumption | ((try clear hback_19); first | lia | grind [zu_at, zu_atL, zvn]))
  refine zw_zg32 14 (by decide) (by (try dsimp only); ((try clear hback_19); first | lia | grind [zu_at, zu_atL, zvn])) ?_
  refine zw_zg32 14 (by decide) (by (try dsimp only); ((try clear hback_19); first | lia | grind [zu_at, zu_atL, zvn])) ?_
  refine zw_zn1 ?_
  exact hback_19 _ (by (try dsimp only); (repeat' apply And.intro) <;> first | with_reducible assumption | ((try clear hback_19); first | lia | grind [zu_at, zu_atL, zvn])) (by (try dsimp only); ((try clear hback_19); first | lia | grind [zu_at, zu_atL, zvn])) (by (try dsimp only); ((try clear hback_19); first | lia | grind [zu_at, zu_atL, zvn]))
set_option maxHeartbeats 4000000 in
set_option maxRecDepth 100000 in
theorem sf_X3_halveWith (p2 : Int32) (p3 : Int32) (v0_10 : Int32) (v0_11 : Int32) (v1_0 : Int32) (v1_5 : Int32) (v2_0 : Int32) (f3 : Nat → Int32) (f4 : Nat → Int32) (f5 : Nat → Int32) (f6 : Nat → Int32) (f7 : Nat → Int32) (f8 : Nat → Int32) (v9_0 : Int32) (f10 : Nat → Int32) (f11 : Nat → Int32) (f12 : Nat → Int32) (v13_1 : Int32) (v13_2 : Int32) (f14 : Nat → Int32) (f15 : Nat → Int32) (f16 : Nat → Int64) (f17 : Nat → Int32) (f19 : Nat → Int64) (f20 : Nat → Int64) (f21 : Nat → Int32) (f22 : Nat → Int32) (h_v1_0 : 0 ≤ v1_0 ∧ v1_0 ≤ 4) (h_v2_0 : 0 ≤ v2_0 ∧ v2_0 ≤ 14) (h_f4 : (∀ i : Nat, 0 ≤ f4 i ∧ f4 i ≤ 1)) (h_f5 : (∀ i : Nat, 0 ≤ f5 i ∧ f5 i ≤ 13)) (h_f6 : (∀ i : Nat, 0 ≤ f6 i ∧ f6 i ≤ 14)) (h_f7 : (∀ i : Nat, 0 ≤ f7 i ∧ f7 i ≤ 14)) (h_v9_0 : 0 ≤ v9_0 ∧ v9_0 ≤ 14) (h_f11 : (∀ i : Nat, 0 ≤ f11 i ∧ f11 i ≤ 13)) : zw (fn_X3_halveWith p2 p3 v0_10 v0_11 v1_0 v1_5 v2_0 f3 f4 f5 f6 f7 f8 v9_0 f10 f11 f12 v13_1 v13_2 f14 f15 f16 f17 f19 f20 f21 f22) (fun r => 0 ≤ r.2.2.1 ∧ r.2.2.1 ≤ 28 ∧ (∀ i : Nat, 0 ≤ r.2.2.2.1 i ∧ r.2.2.2.1 i ≤ 1) ∧ (∀ i : Nat, 0 ≤ r.2.2.2.2.1 i ∧ r.2.2.2.2.1 i ≤ 13) ∧ (∀ i : Nat, 0 ≤ r.2.2.2.2.2.1 i ∧ r.2.2.2.2.2.1 i ≤ 14) ∧ (∀ i : Nat, 0 ≤ r.2.2.2.2.2.2.1 i ∧ r.2.2.2.2.2.2.1 i ≤ 14)) := by
  unfold fn_X3_halveWith
  refine zw_zb0 (sf_X3_findUnchanged v2_0 f3 f4 f5 (by first | with_reducible assumption | exact ⟨by with_reducible assumption, by with_reducible assumption⟩ | first | lia | grind [zu_at, zu_atL, zvn]) (by first | with_reducible assumption | exact ⟨by with_reducible assumption, by with_reducible assumption⟩ | first | lia | grind [zu_at, zu_atL, zvn]) (by first | with_reducible assumption | exact ⟨by with_reducible assumption, by with_reducible assumption⟩ | first | lia | grind [zu_at, zu_atL, zvn])) (fun o_1 ho_1 => ?_)
  obtain ⟨o_1_0, o_1_1⟩ := o_1
  try dsimp only at ho_1
  obtain ⟨ho_1_0, ho_1_1, ho_1_2⟩ := ho_1
  refine zw_zj (fun s_5 => (∀ i : Nat, 0 ≤ s_5.2.1 i ∧ s_5.2.1 i ≤ 14) ∧ (∀ i : Nat, 0 ≤ s_5.2.2 i ∧ s_5.2.2 i ≤ 14) ∧ 0 ≤ s_5.1 ∧ s_5.1 ≤ 28) (fun s_5 Hj_5 => ?_) (fun j_5 hj_5 => ?_)
  · obtain ⟨s_5_0, s_5_1, s_5_2⟩ := s_5
    try dsimp only at Hj_5
    obtain ⟨Hj_5_0, Hj_5_1, Hj_5_2, Hj_5_3⟩ := Hj_5
    refine zw_zl32 (fun s_6 => (∀ i : Nat, 0 ≤ s_6.2.2.2.2.2.2.1 i ∧ s_6.2.2.2.2.2.2.1 i ≤ 1) ∧ (∀ i : Nat, 0 ≤ s_6.2.2.2.2.2.2.2.1 i ∧ s_6.2.2.2.2.2.2.2.1 i ≤ 14) ∧ (∀ i : Nat, 0 ≤ s_6.2.2.2.2.2.2.2.2.1 i ∧ s_6.2.2.2.2.2.2.2.2.1 i ≤ 14) ∧ 0 ≤ s_6.1 ∧ s_6.1 ≤ 28 ∧ 0 ≤ s_6.2.2.2.1 ∧ s_6.2.2.2.1 ≤ 28) (fun s_6 => 28 - s_6.1) (by (try dsimp only); (repeat' apply And.intro) <;> first | with_reducible assumption | ((try clear hj_5); first | lia | grind [zu_at, zu_atL, zvn])) (by (try dsimp only); ((try clear hj_5); first | lia | grind [zu_at, zu_atL, zvn])) (fun s_6 back_6 Hback_6 hback_6 => ?_)
    obtain ⟨s_6_0, s_6_1, s_6_2, s_6_3, s_6_4, s_6_5, s_6_6, s_6_7, s_6_8, s_6_9, s_6_10⟩ := s_6
    try dsimp only at Hback_6 hback_6
    obtain ⟨Hback_6_0, Hback_6_1, Hback_6_2, Hback_6_3, Hback_6_4, Hback_6_5, Hback_6_6⟩ := Hback_6
    refine zw_if (fun c1 => ?_) (fun c1 => ?_)
    · refine zw_some ?_
      first | exact True.intro | ((try dsimp only); (repeat' apply And.intro) <;> first | with_reducible assumption | ((try clear hj_5); (try clear hback_6); first | lia | grind [zu_at, zu_atL, zvn]))
    refine zw_if (fun c2 => ?_) (fun c2 => ?_)
    · refine zw_some ?_
      first | exact True.intro | ((try dsimp only); (repeat' apply And.intro) <;> first | with_reducible assumption | ((try clear hj_5); (try clear hback_6); first | lia | grind [zu_at, zu_atL, zvn]))
    refine zw_zg32 28 (by decide) (by (try dsimp only); ((try clear hj_5); (try clear hback_6); first | lia | grind [zu_at, zu_atL, zvn])) ?_
    refine zw_zb0 (sf_X3_changePart (s_6_7 s_6_0.toNatClampNeg) (s_6_8 s_6_0.toNatClampNeg) p2 p3 s_6_1 o_1_1 s_6_9 v1_0 v1_5 v9_0 f10 f11 f12 s_6_4 s_6_5 f14 f15 s_6_10 f17 f19 f20 f21 f22 s_6_6 (by first | with_reducible assumption | exact ⟨by with_reducible assumption, by with_reducible assumption⟩ | ((try clear hj_5); (try clear hback_6); first | lia | grind [zu_at, zu_atL, zvn])) (by first | with_reducible assumption | exact ⟨by with_reducible assumption, by with_reducible assumption⟩ | ((try clear hj_5); (try clear hback_6); first | lia | grind [zu_at, zu_atL, zvn])) (by first | with_reducible assumption | exact ⟨by with_reducible assumption, by with_reducible assumption⟩ | ((try clear hj_5); (try clear hback_6); first | lia | grind [zu_at, zu_atL, zvn])) (by first | with_reducible assumption | exact ⟨by with_reducible assumption, by with_reducible assumption⟩ | ((try clear hj_5); (try clear hback_6); first | lia | grind [zu_at, zu_atL, zvn])) (by first | with_reducible assumption | exact ⟨by with_reducible assumption, by with_reducible assumption⟩ | ((try clear hj_5); (try clear hback_6); first | lia | grind [zu_at, zu_atL, zvn])) (by first | with_reducible assumption | exact ⟨by with_reducible assumption, by with_reducible assumption⟩ | ((try clear hj_5); (try clear hback_6); first | lia | grind [zu_at, zu_atL, zvn])) (by first | with_reducible assumption | exact ⟨by with_reducible assumption, by with_reducible assumption⟩ | ((try clear hj_5); (try clear hback_6); first | lia | grind [zu_at, zu_atL, zvn]))) (fun o_10 ho_10 => ?_)
    obtain ⟨o_10_0, o_10_1, o_10_2, o_10_3, o_10_4, o_10_5, o_10_6⟩ := o_10
    try dsimp only at ho_10
    obtain ⟨ho_10_0, ho_10_1, ho_10_2⟩ := ho_10
    refine zw_if (fun c3 => ?_) (fun c3 => ?_)
    · refine zw_zn (fun x_15 ex_15 => ?_)
      refine zw_if (fun c4 => ?_) (fun c4 => ?_)
      · exact hback_6 _ (by (try dsimp only); (repeat' apply And.intro) <;> first | with_reducible assumption | ((try clear hj_5); (try clear hback_6); first | lia | grind [zu_at, zu_atL, zvn])) (by (try dsimp only); ((try clear hj_5); (try clear hback_6); first | lia | grind [zu_at, zu_atL, zvn])) (by (try dsimp only); ((try clear hj_5); (try clear hback_6); first | lia | grind [zu_at, zu_atL, zvn]))
      refine zw_zn (fun x_17 ex_17 => ?_)
      have hm := zmid ex_17 (by lia) (by grind) (by grind) (by grind) (by grind)
      refine zw_zb0 (sf_X3_addPart (s_6_7 s_6_0.toNatClampNeg) ((s_6_7 s_6_0.toNatClampNeg) + (x_17 / 2)) s_6_3 s_6_7 s_6_8 (by first | with_reducible assumption | exact ⟨by with_reducible assumption, by with_reducible assumption⟩ | ((try clear hj_5); (try clear hback_6); first | lia | grind [zu_at, zu_atL, zvn])) (by first | with_reducible assumption | exact ⟨by with_reducible assumption, by with_reducible assumption⟩ | ((try clear hj_5); (try clear hback_6); first | lia | grind [zu_at, zu_atL, zvn])) (by first | with_reducible assumption | exact ⟨by with_reducible assumption, by with_reducible assumption⟩ | ((try clear hj_5); (try clear hback_6); first | lia | grind [zu_at, zu_atL, zvn])) (by first | with_reducible assumption | exact ⟨by with_reducible assumption, by with_reducible assumption⟩ | ((try clear hj_5); (try clear hback_6); first | lia | grind [zu_at, zu_atL, zvn])) (by first | with_reducible assumption | exact ⟨by with_reducible assumption, by with_reducible assumption⟩ | ((try clear hj_5); (try clear hback_6); first | lia | grind [zu_at, zu_atL, zvn]))) (fun o_18 ho_18 => ?_)
      obtain ⟨o_18_0, o_18_1, o_18_2⟩ := o_18
      try dsimp only at ho_18
      obtain ⟨ho_18_0, ho_18_1, ho_18_2, ho_18_3, ho_18_4⟩ := ho_18
      refine zw_zb0 (sf_X3_addPart ((s_6_7 s_6_0.toNatClampNeg) + (x_17 / 2)) (s_6_8 s_6_0.toNatClampNeg) o_18_0 o_18_1 o_18_2 (by first | with_reducible assumption | exact ⟨by with_reducible assumption, by with_reducible assumption⟩ | ((try clear hj_5); (try clear hback_6); first | lia | grind [zu_at, zu_atL, zvn])) (by first | with_reducible assumption | exact ⟨by with_reducible assumption, by with_reducible assumption⟩ | ((try clear hj_5); (try clear hback_6); first | lia | grind [zu_at, zu_atL, zvn])) (by first | with_reducible assumption | exact ⟨by with_reducible assumption, by with_reducible assumption⟩ | ((try clear hj_5); (try clear hback_6); first | lia | grind [zu_at, zu_atL, zvn])) (by first | with_reducible assumption | exact ⟨by with_reducible assumption, by with_reducible assumption⟩ | ((try clear hj_5); (try clear hback_6); first | lia | grind [zu_at, zu_atL, zvn])) (by first | with_reducible assumption | exact ⟨by with_reducible assumption, by with_reducible assumption⟩ | ((try clear hj_5); (try clear hback_6); first | lia | grind [zu_at, zu_atL, zvn]))) (fun o_22 ho_22 => ?_)
      obtain ⟨o_22_0, o_22_1, o_22_2⟩ := o_22
      try dsimp only at ho_22
      obtain ⟨ho_22_0, ho_22_1, ho_22_2, ho_22_3, ho_22_4⟩ := ho_22
      clear hm
      exact hback_6 _ (by (try dsimp only); (repeat' apply And.intro) <;> first | with_reducible assumption | ((try clear hj_5); (try clear hback_6); first | lia | grind [zu_at, zu_atL, zvn])) (by (try dsimp only); ((try clear hj_5); (try clear hback_6); first | lia | grind [zu_at, zu_atL, zvn])) (by (try dsimp only); ((try clear hj_5); (try clear hback_6); first | lia | grind [zu_at, zu_atL, zvn]))
    exact hback_6 _ (by (try dsimp only); (repeat' apply And.intro) <;> first | with_reducible assumption | ((try clear hj_5); (try clear hback_6); first | lia | grind [zu_at, zu_atL, zvn])) (by (try dsimp only); ((try clear hj_5); (try clear hback_6); first | lia | grind [zu_at, zu_atL, zvn])) (by (try dsimp only); ((try clear hj_5); (try clear hback_6); first | lia | grind [zu_at, zu_atL, zvn]))
  refine zw_if (fun c5 => ?_) (fun c5 => ?_)
  · exact hj_5 _ (by first | exact True.intro | ((try dsimp only); (repeat' apply And.intro) <;> first | with_reducible assumption | ((try clear hj_5); (try clear hback_6); first | lia | grind [zu_at, zu_atL, zvn])))
  refine zw_zb0 (sf_X3_addPart 0 o_1_0 0 f6 f7 (by first | with_reducible assumption | exact ⟨by with_reducible assumption, by with_reducible assumption⟩ | ((try clear hj_5); (try clear hback_6); first | lia | grind [zu_at, zu_atL, zvn])) (by first | with_reducible assumption | exact ⟨by with_reducible assumption, by with_reducible assumption⟩ | ((try clear hj_5); (try clear hback_6); first | lia | grind [zu_at, zu_atL, zvn])) (by first | with_reducible assumption | exact ⟨by with_reducible assumption, by with_reducible assumption⟩ | ((try clear hj_5); (try clear hback_6); first | lia | grind [zu_at, zu_atL, zvn])) (by first | with_reducible assumption | exact ⟨by with_reducible assumption, by with_reducible assumption⟩ | ((try clear hj_5); (try clear hback_6); first | lia | grind [zu_at, zu_atL, zvn])) (by first | with_reducible assumption | exact ⟨by with_reducible assumption, by with_reducible assumption⟩ | ((try clear hj_5); (try clear hback_6); first | lia | grind [zu_at, zu_atL, zvn]))) (fun o_27 ho_27 => ?_)
  obtain ⟨o_27_0, o_27_1, o_27_2⟩ := o_27
  try dsimp only at ho_27
  obtain ⟨ho_27_0, ho_27_1, ho_27_2, ho_27_3, ho_27_4⟩ := ho_27
  exact hj_5 _ (by first | exact True.intro | ((try dsimp only); (repeat' apply And.intro) <;> first | with_reducible assumption | ((try clear hj_5); (try clear hback_6); first | lia | grind [zu_at, zu_atL, zvn])))
set_option maxHeartbeats 4000000 in
set_option maxRecDepth 100000 in
theorem sf_X3_goByHalves (v0_2 : Int32) (v0_3 : Int32) (v0_8 : Int32) (v0_10 : Int32) (v0_11 : Int32) (v1_0 : Int32) (v1_5 : Int32) (v2_0 : Int32) (v3_0 : Int32) (v3_2 : Int32) (f4 : Nat → Int32) (f5 : Nat → Int32) (f6 : Nat → Int32) (f7 : Nat → Int32) (v8_1 : Int32) (v8_2 : Int32) (f9 : Nat → Int32) (f10 : Nat → Int32) (f11 : Nat → Int32) (f12 : Nat → Int64) (f13 : Nat → Int32) (f15 : Nat → Int64) (f16 : Nat → Int64) (f17 : Nat → Int32) (f18 : Nat → Int32) (f19 : Nat → Int32) (f20 : Nat → Int32) (f21 : Nat → Int32) (f22 : Nat → Int32) (h_v0_2 : 0 ≤ v0_2 ∧ v0_2 ≤ 1) (h_v0_3 : 0 ≤ v0_3 ∧ v0_3 ≤ 1) (h_v0_8 : 0 ≤ v0_8 ∧ v0_8 ≤ 28) (h_v1_0 : 0 ≤ v1_0 ∧ v1_0 ≤ 4) (h_v2_0 : 0 ≤ v2_0 ∧ v2_0 ≤ 14) (h_v3_0 : 0 ≤ v3_0 ∧ v3_0 ≤ 14) (h_v3_2 : 0 ≤ v3_2 ∧ v3_2 ≤ 1) (h_f7 : (∀ i : Nat, 0 ≤ f7 i ∧ f7 i ≤ 1)) (h_f9 : (∀ i : Nat, 0 ≤ f9 i ∧ f9 i ≤ 13)) (h_f20 : (∀ i : Nat, 0 ≤ f20 i ∧ f20 i ≤ 13)) (h_f21 : (∀ i : Nat, 0 ≤ f21 i ∧ f21 i ≤ 14)) (h_f22 : (∀ i : Nat, 0 ≤ f22 i ∧ f22 i ≤ 14)) : zw (fn_X3_goByHalves v0_2 v0_3 v0_8 v0_10 v0_11 v1_0 v1_5 v2_0 v3_0 v3_2 f4 f5 f6 f7 v8_1 v8_2 f9 f10 f11 f12 f13 f15 f16 f17 f18 f19 f20 f21 f22) (fun r => 0 ≤ r.1 ∧ r.1 ≤ 1 ∧ 0 ≤ r.2.2.2.1 ∧ r.2.2.2.1 ≤ 1 ∧ 0 ≤ r.2.2.2.2.1 ∧ r.2.2.2.2.1 ≤ 1 ∧ 0 ≤ r.2.2.2.2.2.1 ∧ r.2.2.2.2.2.1 ≤ 28 ∧ (∀ i : Nat, 0 ≤ r.2.2.2.2.2.2.2.1 i ∧ r.2.2.2.2.2.2.2.1 i ≤ 1) ∧ (∀ i : Nat, 0 ≤ r.2.2.2.2.2.2.2.2.2.2.2.1 i ∧ r.2.2.2.2.2.2.2.2.2.2.2.1 i ≤ 13) ∧ (∀ i : Nat, 0 ≤ r.2.2.2.2.2.2.2.2.2.2.2.2.1 i ∧ r.2.2.2.2.2.2.2.2.2.2.2.2.1 i ≤ 14) ∧ (∀ i : Nat, 0 ≤ r.2.2.2.2.2.2.2.2.2.2.2.2.2 i ∧ r.2.2.2.2.2.2.2.2.2.2.2.2.2 i ≤ 14) ∧ r.1 ≤ r.2.2.2.1 ∧ r.1 ≤ r.2.2.2.2.1 ∧ r.1 ≤ v2_0 ∧ v0_2 ≤ r.2.2.2.1 ∧ (r.1 = 0 → r.1 ≤ v0_2 ∧ r.1 ≤ v0_3 ∧ r.2.2.2.2.1 ≤ v0_3) ∧ (¬ r.1 = 0 → 1 ≤ r.2.2.2.1 ∧ 1 ≤ v2_0 ∧ v3_2 ≤ 0 ∧ r.2.2.2.2.1 ≤ r.1 ∧ v0_3 ≤ r.1) ∧ (r.1 = 1 → 1 ≤ r.2.2.2.1 ∧ 1 ≤ v2_0 ∧ v3_2 ≤ 0 ∧ r.2.2.2.2.1 ≤ r.1 ∧ v0_3 ≤ r.1) ∧ (¬ r.1 = 1 → r.1 ≤ v0_2 ∧ r.1 ≤ v0_3 ∧ r.2.2.2.2.1 ≤ v0_3)) := by
  unfold fn_X3_goByHalves
  refine zw_zb0 (sf_X9_hasChoice v2_0 v3_2 (by first | with_reducible assumption | exact ⟨by with_reducible assumption, by with_reducible assumption⟩ | first | lia | grind [zu_at, zu_atL, zvn]) (by first | with_reducible assumption | exact ⟨by with_reducible assumption, by with_reducible assumption⟩ | first | lia | grind [zu_at, zu_atL, zvn])) (fun o_1 ho_1 => ?_)
  obtain ⟨ho_1_0, ho_1_1, ho_1_2, ho_1_3, ho_1_4, ho_1_5, ho_1_6⟩ := ho_1
  refine zw_if (fun c1 => ?_) (fun c1 => ?_)
  · refine zw_some ?_
    first | exact True.intro | ((try dsimp only); (repeat' apply And.intro) <;> first | with_reducible assumption | first | lia | grind [zu_at, zu_atL, zvn])
  refine zw_if (fun c2 => ?_) (fun c2 => ?_)
  · refine zw_zb0 (sf_X9_finestFormat v1_0 f4 (by first | with_reducible assumption | exact ⟨by with_reducible assumption, by with_reducible assumption⟩ | first | lia | grind [zu_at, zu_atL, zvn])) (fun o_7 ho_7 => ?_)
    obtain ⟨ho_7_0, ho_7_1, ho_7_2⟩ := ho_7
    refine zw_zb0 (sf_X2_fillFree o_7 v3_0 f5 f6 (by first | with_reducible assumption | exact ⟨by with_reducible assumption, by with_reducible assumption⟩ | first | lia | grind [zu_at, zu_atL, zvn])) (fun o_11 ho_11 => ?_)
    refine zw_zl32 (fun s_15 => (∀ i : Nat, 0 ≤ s_15.2 i ∧ s_15.2 i ≤ 1) ∧ 0 ≤ s_15.1 ∧ s_15.1 ≤ 14) (fun s_15 => 14 - s_15.1) (by (try dsimp only); (repeat' apply And.intro) <;> first | with_reducible assumption | first | lia | grind [zu_at, zu_atL, zvn]) (by (try dsimp only); first | lia | grind [zu_at, zu_atL, zvn]) (fun s_15 back_15 Hback_15 hback_15 => ?_)
    obtain ⟨s_15_0, s_15_1⟩ := s_15
    try dsimp only at Hback_15 hback_15
    obtain ⟨Hback_15_0, Hback_15_1, Hback_15_2⟩ := Hback_15
    refine zw_if (fun c3 => ?_) (fun c3 => ?_)
    · refine zw_zb0 (sf_X7_reckon v1_0 v2_0 f9 o_11 f4 f10 f11 f12 f13 f15 f16 f17 f18 (by first | with_reducible assumption | exact ⟨by with_reducible assumption, by with_reducible assumption⟩ | ((try clear hback_15); first | lia | grind [zu_at, zu_atL, zvn])) (by first | with_reducible assumption | exact ⟨by with_reducible assumption, by with_reducible assumption⟩ | ((try clear hback_15); first | lia | grind [zu_at, zu_atL, zvn])) (by first | with_reducible assumption | exact ⟨by with_reducible assumption, by with_reducible assumption⟩ | ((try clear hback_15); first | lia | grind [zu_at, zu_atL, zvn]))) (fun o_17 ho_17 => ?_)
      obtain ⟨o_17_0, o_17_1, o_17_2, o_17_3⟩ := o_17
      try dsimp only at ho_17
      obtain ⟨ho_17_0, ho_17_1, ho_17_2, ho_17_3, ho_17_4, ho_17_5, ho_17_6, ho_17_7, ho_17_8, ho_17_9, ho_17_10, ho_17_11⟩ := ho_17
      refine zw_zb0 (sf_X9_priceOf v1_0 v1_5 v2_0 f11 f9 o_11 f19 (by first | with_reducible assumption | exact ⟨by with_reducible assumption, by with_reducible assumption⟩ | ((try clear hback_15); first | lia | grind [zu_at, zu_atL, zvn])) (by first | with_reducible assumption | exact ⟨by with_reducible assumption, by with_reducible assumption⟩ | ((try clear hback_15); first | lia | grind [zu_at, zu_atL, zvn])) (by first | with_reducible assumption | exact ⟨by with_reducible assumption, by with_reducible assumption⟩ | ((try clear hback_15); first | lia | grind [zu_at, zu_atL, zvn]))) (fun o_21 ho_21 => ?_)
      refine zw_zl32 (fun s_25 => (∀ i : Nat, 0 ≤ s_25.2.2.2.2.2.2.1 i ∧ s_25.2.2.2.2.2.2.1 i ≤ 1) ∧ (∀ i : Nat, 0 ≤ s_25.2.2.2.2.2.2.2.1 i ∧ s_25.2.2.2.2.2.2.2.1 i ≤ 13) ∧ (∀ i : Nat, 0 ≤ s_25.2.2.2.2.2.2.2.2.1 i ∧ s_25.2.2.2.2.2.2.2.2.1 i ≤ 14) ∧ (∀ i : Nat, 0 ≤ s_25.2.2.2.2.2.2.2.2.2.1 i ∧ s_25.2.2.2.2.2.2.2.2.2.1 i ≤ 14) ∧ 0 ≤ s_25.1 ∧ s_25.1 ≤ 4 ∧ 0 ≤ s_25.2.2.2.1 ∧ s_25.2.2.2.1 ≤ 28 ∧ s_25.1 ≤ v1_0 ∧ s_25.1 ≤ o_17_0 + 3) (fun s_25 => 4 - s_25.1) (by (try dsimp only); (repeat' apply And.intro) <;> first | with_reducible assumption | ((try clear hback_15); first | lia | grind [zu_at, zu_atL, zvn])) (by (try dsimp only); ((try clear hback_15); first | lia | grind [zu_at, zu_atL, zvn])) (fun s_25 back_25 Hback_25 hback_25 => ?_)
      obtain ⟨s_25_0, s_25_1, s_25_2, s_25_3, s_25_4, s_25_5, s_25_6, s_25_7, s_25_8, s_25_9, s_25_10, s_25_11⟩ := s_25
      try dsimp only at Hback_25 hback_25
      obtain ⟨Hback_25_0, Hback_25_1, Hback_25_2, Hback_25_3, Hback_25_4, Hback_25_5, Hback_25_6, Hback_25_7, Hback_25_8, Hback_25_9⟩ := Hback_25
      refine zw_if (fun c4 => ?_) (fun c4 => ?_)
      · refine zw_zt (by (try dsimp only); ((try clear hback_15); (try clear hback_25); first | lia | grind [zu_at, zu_atL, zvn])) ?_
        refine zw_some ?_
        first | exact True.intro | ((try dsimp only); (repeat' apply And.intro) <;> first | with_reducible assumption | ((try clear hback_15); (try clear hback_25); first | lia | grind [zu_at, zu_atL, zvn]))
      refine zw_if (fun c5 => ?_) (fun c5 => ?_)
      · refine zw_zt (by (try dsimp only); ((try clear hback_15); (try clear hback_25); first | lia | grind [zu_at, zu_atL, zvn])) ?_
        refine zw_some ?_
        first | exact True.intro | ((try dsimp only); (repeat' apply And.intro) <;> first | with_reducible assumption | ((try clear hback_15); (try clear hback_25); first | lia | grind [zu_at, zu_atL, zvn]))
      refine zw_if (fun c6 => ?_) (fun c6 => ?_)
      · exact hback_25 _ (by (try dsimp only); (repeat' apply And.intro) <;> first | with_reducible assumption | ((try clear hback_15); (try clear hback_25); first | lia | grind [zu_at, zu_atL, zvn])) (by (try dsimp only); ((try clear hback_15); (try clear hback_25); first | lia | grind [zu_at, zu_atL, zvn])) (by (try dsimp only); ((try clear hback_15); (try clear hback_25); first | lia | grind [zu_at, zu_atL, zvn]))
      refine zw_zb0 (sf_X3_halveWith s_25_0 o_7 s_25_1 s_25_2 v1_0 v1_5 v3_0 f6 s_25_6 s_25_7 s_25_8 s_25_9 s_25_10 v2_0 f11 f9 f19 s_25_4 s_25_5 f4 f10 s_25_11 f13 f15 f16 f17 f18 (by first | with_reducible assumption | exact ⟨by with_reducible assumption, by with_reducible assumption⟩ | ((try clear hback_15); (try clear hback_25); first | lia | grind [zu_at, zu_atL, zvn])) (by first | with_reducible assumption | exact ⟨by with_reducible assumption, by with_reducible assumption⟩ | ((try clear hback_15); (try clear hback_25); first | lia | grind [zu_at, zu_atL, zvn])) (by first | with_reducible assumption | exact ⟨by with_reducible assumption, by with_reducible assumption⟩ | ((try clear hback_15); (try clear hback_25); first | lia | grind [zu_at, zu_atL, zvn])) (by first | with_reducible assumption | exact ⟨by with_reducible assumption, by with_reducible assumption⟩ | ((try clear hback_15); (try clear hback_25); first | lia | grind [zu_at, zu_atL, zvn])) (by first | with_reducible assumption | exact ⟨by with_reducible assumption, by with_reducible assumption⟩ | ((try clear hback_15); (try clear hback_25); first | lia | grind [zu_at, zu_atL, zvn])) (by first | with_reducible assumption | exact ⟨by with_reducible assumption, by with_reducible assumption⟩ | ((try clear hback_15); (try clear hback_25); first | lia | grind [zu_at, zu_atL, zvn])) (by first | with_reducible assumption | exact ⟨by with_reducible assumption, by with_reducible assumption⟩ | ((try clear hback_15); (try clear hback_25); first | lia | grind [zu_at, zu_atL, zvn])) (by first | with_reducible assumption | exact ⟨by with_reducible assumption, by with_reducible assumption⟩ | ((try clear hback_15); (try clear hback_25); first | lia | grind [zu_at, zu_atL, zvn]))) (fun o_31 ho_31 => ?_)
      obtain ⟨o_31_0, o_31_1, o_31_2, o_31_3, o_31_4, o_31_5, o_31_6, o_31_7, o_31_8, o_31_9, o_31_10⟩ := o_31
      try dsimp only at ho_31
      obtain ⟨ho_31_0, ho_31_1, ho_31_2, ho_31_3, ho_31_4, ho_31_5⟩ := ho_31
      exact hback_25 _ (by (try dsimp only); (repeat' apply And.intro) <;> first | with_reducible assumption | ((try clear hback_15); (try clear hback_25); first | lia | grind [zu_at, zu_atL, zvn])) (by (try dsimp only); ((try clear hback_15); (try clear hback_25); first | lia | grind [zu_at, zu_atL, zvn])) (by (try dsimp only); ((try clear hback_15); (try clear hback_25); first | lia | grind [zu_at, zu_atL, zvn]))
    refine zw_zg32 14 (by decide) (by (try dsimp only); ((try clear hback_15); (try clear hback_25); first | lia | grind [zu_at, zu_atL, zvn])) ?_
    exact hback_15 _ (by (try dsimp only); (repeat' apply And.intro) <;> first | with_reducible assumption | ((try clear hback_15); (try clear hback_25); first | lia | grind [zu_at, zu_atL, zvn])) (by (try dsimp only); ((try clear hback_15); (try clear hback_25); first | lia | grind [zu_at, zu_atL, zvn])) (by (try dsimp only); ((try clear hback_15); (try clear hback_25); first | lia | grind [zu_at, zu_atL, zvn]))
  refine zw_zt (by (try dsimp only); ((try clear hback_15); (try clear hback_25); first | lia | grind [zu_at, zu_atL, zvn])) ?_
  refine zw_some ?_
  first | exact True.intro | ((try dsimp only); (repeat' apply And.intro) <;> first | with_reducible assumption | ((try clear hback_15); (try clear hback_25); first | lia | grind [zu_at, zu_atL, zvn]))
set_option maxHeartbeats 4000000 in
set_option maxRecDepth 100000 in
theorem sf_X11_copyChoice (f0 : Nat → Int32) (f1 : Nat → Int32) : zw (fn_X11_copyChoice f0 f1) (fun r => True) := by
  unfold fn_X11_copyChoice
  refine zw_zl32 (fun s_1 => 0 ≤ s_1.1 ∧ s_1.1 ≤ 14) (fun s_1 => 14 - s_1.1) (by (try dsimp only); (repeat' apply And.intro) <;> first | with_reducible assumption | first | lia | grind [zu_at, zu_atL, zvn]) (by (try dsimp only); first | lia | grind [zu_at, zu_atL, zvn]) (fun s_1 back_1 Hback_1 hback_1 => ?_)
  obtain ⟨s_1_0, s_1_1⟩ := s_1
  try dsimp only at Hback_1 hback_1
  obtain ⟨Hback_1_0, Hback_1_1⟩ := Hback_1
  refine zw_if (fun c1 => ?_) (fun c1 => ?_)
  · refine zw_some ?_
    first | exact True.intro | ((try dsimp only); (repeat' apply And.intro) <;> first | with_reducible assumption | ((try clear hback_1); first | lia | grind [zu_at, zu_atL, zvn]))
  refine zw_if (fun c2 => ?_) (fun c2 => ?_)
  · refine zw_some ?_
    first | exact True.intro | ((try dsimp only); (repeat' apply And.intro) <;> first | with_reducible assumption | ((try clear hback_1); first | lia | grind [zu_at, zu_atL, zvn]))
  refine zw_if (fun c3 => ?_) (fun c3 => ?_)
  · refine zw_some ?_
    first | exact True.intro | ((try dsimp only); (repeat' apply And.intro) <;> first | with_reducible assumption | ((try clear hback_1); first | lia | grind [zu_at, zu_atL, zvn]))
  refine zw_zg32 14 (by decide) (by (try dsimp only); ((try clear hback_1); first | lia | grind [zu_at, zu_atL, zvn])) ?_
  exact hback_1 _ (by (try dsimp only); (repeat' apply And.intro) <;> first | with_reducible assumption | ((try clear hback_1); first | lia | grind [zu_at, zu_atL, zvn])) (by (try dsimp only); ((try clear hback_1); first | lia | grind [zu_at, zu_atL, zvn])) (by (try dsimp only); ((try clear hback_1); first | lia | grind [zu_at, zu_atL, zvn]))
set_option maxHeartbeats 4000000 in
set_option maxRecDepth 100000 in
theorem sf_X3_lookAround (f1 : Nat → Int32) (f2 : Nat → Int32) (v3_0 : Int32) (v3_5 : Int32) (v4_0 : Int32) (f5 : Nat → Int32) (v6_0 : Int32) (f7 : Nat → Int32) (f8 : Nat → Int32) (f9 : Nat → Int32) (v10_1 : Int32) (v10_2 : Int32) (f11 : Nat → Int32) (f12 : Nat → Int32) (f13 : Nat → Int64) (f14 : Nat → Int32) (f16 : Nat → Int64) (f17 : Nat → Int64) (f18 : Nat → Int32) (f19 : Nat → Int32) (h_v3_0 : 0 ≤ v3_0 ∧ v3_0 ≤ 4) (h_v4_0 : 0 ≤ v4_0 ∧ v4_0 ≤ 14) (h_v6_0 : 0 ≤ v6_0 ∧ v6_0 ≤ 14) (h_f7 : (∀ i : Nat, 0 ≤ f7 i ∧ f7 i ≤ 13)) : zw (fn_X3_lookAround f1 f2 v3_0 v3_5 v4_0 f5 v6_0 f7 f8 f9 v10_1 v10_2 f11 f12 f13 f14 f16 f17 f18 f19) (fun r => (-1) ≤ r.2.2.1 ∧ r.2.2.1 ≤ 13 ∧ (-1) ≤ r.2.2.2.1 ∧ r.2.2.2.1 ≤ 3 ∧ r.2.2.1 < v6_0 ∧ r.2.2.2.1 < v3_0 ∧ r.2.2.2.1 ≤ r.2.2.1 + 3) := by
  unfold fn_X3_lookAround
  refine zw_zb0 (sf_X11_copyChoice f1 f2) (fun o_1 ho_1 => ?_)
  refine zw_zb0 (sf_X9_priceOf v3_0 v3_5 v4_0 f5 f7 f1 f8 (by first | with_reducible assumption | exact ⟨by with_reducible assumption, by with_reducible assumption⟩ | first | lia | grind [zu_at, zu_atL, zvn]) (by first | with_reducible assumption | exact ⟨by with_reducible assumption, by with_reducible assumption⟩ | first | lia | grind [zu_at, zu_atL, zvn]) (by first | with_reducible assumption | exact ⟨by with_reducible assumption, by with_reducible assumption⟩ | first | lia | grind [zu_at, zu_atL, zvn])) (fun o_5 ho_5 => ?_)
  refine zw_zl32 (fun s_9 => 0 ≤ s_9.2.1 ∧ s_9.2.1 ≤ 14 ∧ (-1) ≤ s_9.2.2.2.2.1 ∧ s_9.2.2.2.2.1 ≤ 13 ∧ (-1) ≤ s_9.2.2.2.2.2.1 ∧ s_9.2.2.2.2.2.1 ≤ 3 ∧ s_9.1 ≤ o_5 ∧ s_9.2.1 ≤ v6_0 ∧ s_9.2.2.2.2.1 < v6_0 ∧ s_9.2.2.2.2.2.1 < v3_0 ∧ s_9.2.2.2.2.1 < s_9.2.1 ∧ s_9.2.2.2.2.2.1 ≤ v6_0 + 2 ∧ s_9.2.2.2.2.2.1 ≤ s_9.2.1 + 2 ∧ s_9.2.2.2.2.2.1 ≤ s_9.2.2.2.2.1 + 3) (fun s_9 => 14 - s_9.2.1) (by (try dsimp only); (repeat' apply And.intro) <;> first | with_reducible assumption | first | lia | grind [zu_at, zu_atL, zvn]) (by (try dsimp only); first | lia | grind [zu_at, zu_atL, zvn]) (fun s_9 back_9 Hback_9 hback_9 => ?_)
  obtain ⟨s_9_0, s_9_1, s_9_2, s_9_3, s_9_4, s_9_5, s_9_6, s_9_7, s_9_8, s_9_9⟩ := s_9
  try dsimp only at Hback_9 hback_9
  obtain ⟨Hback_9_0, Hback_9_1, Hback_9_2, Hback_9_3, Hback_9_4, Hback_9_5, Hback_9_6, Hback_9_7, Hback_9_8, Hback_9_9, Hback_9_10, Hback_9_11, Hback_9_12, Hback_9_13⟩ := Hback_9
  refine zw_if (fun c1 => ?_) (fun c1 => ?_)
  · refine zw_some ?_
    first | exact True.intro | ((try dsimp only); (repeat' apply And.intro) <;> first | with_reducible assumption | ((try clear hback_9); first | lia | grind [zu_at, zu_atL, zvn]))
  refine zw_zl32 (fun s_11 => 0 ≤ s_11.2.1 ∧ s_11.2.1 ≤ 4 ∧ (-1) ≤ s_11.2.2.2.2.1 ∧ s_11.2.2.2.2.1 ≤ 13 ∧ (-1) ≤ s_11.2.2.2.2.2.1 ∧ s_11.2.2.2.2.2.1 ≤ 3 ∧ s_11.1 ≤ o_5 ∧ s_11.1 ≤ s_9_0 ∧ s_11.2.1 ≤ v3_0 ∧ s_11.2.2.2.2.1 < v6_0 ∧ s_11.2.2.2.2.2.1 < v3_0 ∧ s_11.2.2.2.2.1 ≤ s_9_1 ∧ s_9_4 ≤ s_11.2.2.2.2.1 ∧ s_11.2.2.2.2.2.1 ≤ s_11.2.2.2.2.1 + 3 ∧ s_9_5 ≤ s_11.2.2.2.2.2.1 + 3) (fun s_11 => 4 - s_11.2.1) (by (try dsimp only); (repeat' apply And.intro) <;> first | with_reducible assumption | ((try clear hback_9); first | lia | grind [zu_at, zu_atL, zvn])) (by (try dsimp only); ((try clear hback_9); first | lia | grind [zu_at, zu_atL, zvn])) (fun s_11 back_11 Hback_11 hback_11 => ?_)
  obtain ⟨s_11_0, s_11_1, s_11_2, s_11_3, s_11_4, s_11_5, s_11_6, s_11_7, s_11_8, s_11_9⟩ := s_11
  try dsimp only at Hback_11 hback_11
  obtain ⟨Hback_11_0, Hback_11_1, Hback_11_2, Hback_11_3, Hback_11_4, Hback_11_5, Hback_11_6, Hback_11_7, Hback_11_8, Hback_11_9, Hback_11_10, Hback_11_11, Hback_11_12, Hback_11_13, Hback_11_14⟩ := Hback_11
  refine zw_zg32 14 (by decide) (by (try dsimp only); ((try clear hback_9); (try clear hback_11); first | lia | grind [zu_at, zu_atL, zvn])) ?_
  refine zw_zj (fun _ => True) (fun s_13 Hj_13 => ?_) (fun j_13 hj_13 => ?_)
  · refine zw_zg32 14 (by decide) (by (try dsimp only); ((try clear hback_9); (try clear hback_11); (try clear hj_13); first | lia | grind [zu_at, zu_atL, zvn])) ?_
    refine zw_zn1 ?_
    exact hback_9 _ (by (try dsimp only); (repeat' apply And.intro) <;> first | with_reducible assumption | ((try clear hback_9); (try clear hback_11); (try clear hj_13); first | lia | grind [zu_at, zu_atL, zvn])) (by (try dsimp only); ((try clear hback_9); (try clear hback_11); (try clear hj_13); first | lia | grind [zu_at, zu_atL, zvn])) (by (try dsimp only); ((try clear hback_9); (try clear hback_11); (try clear hj_13); first | lia | grind [zu_at, zu_atL, zvn]))
  refine zw_if (fun c2 => ?_) (fun c2 => ?_)
  · refine zw_if (fun c3 => ?_) (fun c3 => ?_)
    · exact hj_13 _ (by first | exact True.intro | ((try dsimp only); (repeat' apply And.intro) <;> first | with_reducible assumption | ((try clear hback_9); (try clear hback_11); (try clear hj_13); first | lia | grind [zu_at, zu_atL, zvn])))
    refine zw_if (fun c4 => ?_) (fun c4 => ?_)
    · exact hback_11 _ (by (try dsimp only); (repeat' apply And.intro) <;> first | with_reducible assumption | ((try clear hback_9); (try clear hback_11); (try clear hj_13); first | lia | grind [zu_at, zu_atL, zvn])) (by (try dsimp only); ((try clear hback_9); (try clear hback_11); (try clear hj_13); first | lia | grind [zu_at, zu_atL, zvn])) (by (try dsimp only); ((try clear hback_9); (try clear hback_11); (try clear hj_13); first | lia | grind [zu_at, zu_atL, zvn]))
    refine zw_zb0 (sf_X7_reckon v3_0 v4_0 f7 (upd s_11_8 s_9_1.toNatClampNeg s_11_1) f11 f12 f5 s_11_9 f14 f16 f17 f18 f19 (by first | with_reducible assumption | exact ⟨by with_reducible assumption, by with_reducible assumption⟩ | ((try clear hback_9); (try clear hback_11); (try clear hj_13); first | lia | grind [zu_at, zu_atL, zvn])) (by first | with_reducible assumption | exact ⟨by with_reducible assumption, by with_reducible assumption⟩ | ((try clear hback_9); (try clear hback_11); (try clear hj_13); first | lia | grind [zu_at, zu_atL, zvn])) (by first | with_reducible assumption | exact ⟨by with_reducible assumption, by with_reducible assumption⟩ | ((try clear hback_9); (try clear hback_11); (try clear hj_13); first | lia | grind [zu_at, zu_atL, zvn]))) (fun o_19 ho_19 => ?_)
    obtain ⟨o_19_0, o_19_1, o_19_2, o_19_3⟩ := o_19
    try dsimp only at ho_19
    obtain ⟨ho_19_0, ho_19_1, ho_19_2, ho_19_3, ho_19_4, ho_19_5, ho_19_6, ho_19_7, ho_19_8, ho_19_9, ho_19_10, ho_19_11⟩ := ho_19
    refine zw_if (fun c5 => ?_) (fun c5 => ?_)
    · exact hback_11 _ (by (try dsimp only); (repeat' apply And.intro) <;> first | with_reducible assumption | ((try clear hback_9); (try clear hback_11); (try clear hj_13); first | lia | grind [zu_at, zu_atL, zvn])) (by (try dsimp only); ((try clear hback_9); (try clear hback_11); (try clear hj_13); first | lia | grind [zu_at, zu_atL, zvn])) (by (try dsimp only); ((try clear hback_9); (try clear hback_11); (try clear hj_13); first | lia | grind [zu_at, zu_atL, zvn]))
    refine zw_zb0 (sf_X9_priceOf v3_0 v3_5 v4_0 f5 f7 (upd s_11_8 s_9_1.toNatClampNeg s_11_1) f8 (by first | with_reducible assumption | exact ⟨by with_reducible assumption, by with_reducible assumption⟩ | ((try clear hback_9); (try clear hback_11); (try clear hj_13); first | lia | grind [zu_at, zu_atL, zvn])) (by first | with_reducible assumption | exact ⟨by with_reducible assumption, by with_reducible assumption⟩ | ((try clear hback_9); (try clear hback_11); (try clear hj_13); first | lia | grind [zu_at, zu_atL, zvn])) (by first | with_reducible assumption | exact ⟨by with_reducible assumption, by with_reducible assumption⟩ | ((try clear hback_9); (try clear hback_11); (try clear hj_13); first | lia | grind [zu_at, zu_atL, zvn]))) (fun o_24 ho_24 => ?_)
    refine zw_zj (fun s_28 => 0 ≤ s_28 ∧ s_28 ≤ 1) (fun s_28 Hj_28 => ?_) (fun j_28 hj_28 => ?_)
    · obtain ⟨Hj_28_0, Hj_28_1⟩ := Hj_28
      refine zw_if (fun c6 => ?_) (fun c6 => ?_)
      · exact hback_11 _ (by (try dsimp only); (repeat' apply And.intro) <;> first | with_reducible assumption | ((try clear hback_9); (try clear hback_11); (try clear hj_13); (try clear hj_28); first | lia | grind [zu_at, zu_atL, zvn])) (by (try dsimp only); ((try clear hback_9); (try clear hback_11); (try clear hj_13); (try clear hj_28); first | lia | grind [zu_at, zu_atL, zvn])) (by (try dsimp only); ((try clear hback_9); (try clear hback_11); (try clear hj_13); (try clear hj_28); first | lia | grind [zu_at, zu_atL, zvn]))
      exact hback_11 _ (by (try dsimp only); (repeat' apply And.intro) <;> first | with_reducible assumption | ((try clear hback_9); (try clear hback_11); (try clear hj_13); (try clear hj_28); first | lia | grind [zu_at, zu_atL, zvn])) (by (try dsimp only); ((try clear hback_9); (try clear hback_11); (try clear hj_13); (try clear hj_28); first | lia | grind [zu_at, zu_atL, zvn])) (by (try dsimp only); ((try clear hback_9); (try clear hback_11); (try clear hj_13); (try clear hj_28); first | lia | grind [zu_at, zu_atL, zvn]))
    refine zw_if (fun c7 => ?_) (fun c7 => ?_)
    · exact hj_28 _ (by first | exact True.intro | ((try dsimp only); (repeat' apply And.intro) <;> first | with_reducible assumption | ((try clear hback_9); (try clear hback_11); (try clear hj_13); (try clear hj_28); first | lia | grind [zu_at, zu_atL, zvn])))
    exact hj_28 _ (by first | exact True.intro | ((try dsimp only); (repeat' apply And.intro) <;> first | with_reducible assumption | ((try clear hback_9); (try clear hback_11); (try clear hj_13); (try clear hj_28); first | lia | grind [zu_at, zu_atL, zvn])))
  exact hj_13 _ (by first | exact True.intro | ((try dsimp only); (repeat' apply And.intro) <;> first | with_reducible assumption | ((try clear hback_9); (try clear hback_11); (try clear hj_13); (try clear hj_28); first | lia | grind [zu_at, zu_atL, zvn])))
set_option maxHeartbeats 4000000 in
set_option maxRecDepth 100000 in
theorem sf_X4_prepare (p1 : Int32) (p2 : Int32) (p3 : Int32) (v0_0 : Int32) (f1 : Nat → Int32) (f2 : Nat → Int32) (h_v0_0 : 0 ≤ v0_0 ∧ v0_0 ≤ 14) : zw (fn_X4_prepare p1 p2 p3 v0_0 f1 f2) (fun r => True) := by
  unfold fn_X4_prepare
  refine zw_if (fun c1 => ?_) (fun c1 => ?_)
  · refine zw_some ?_
    first | exact True.intro | ((try dsimp only); (repeat' apply And.intro) <;> first | with_reducible assumption | first | lia | grind [zu_at, zu_atL, zvn])
  refine zw_zj (fun _ => 0 ≤ p1 ∧ p1 ≤ 1) (fun s_2 Hj_2 => ?_) (fun j_2 hj_2 => ?_)
  · obtain ⟨Hj_2_0, Hj_2_1⟩ := Hj_2
    refine zw_zg32 28 (by decide) (by (try dsimp only); ((try clear hj_2); first | lia | grind [zu_at, zu_atL, zvn])) ?_
    refine zw_some ?_
    first | exact True.intro | ((try dsimp only); (repeat' apply And.intro) <;> first | with_reducible assumption | ((try clear hj_2); first | lia | grind [zu_at, zu_atL, zvn]))
  refine zw_if (fun c2 => ?_) (fun c2 => ?_)
  · exact hj_2 _ (by first | exact True.intro | ((try dsimp only); (repeat' apply And.intro) <;> first | with_reducible assumption | ((try clear hj_2); first | lia | grind [zu_at, zu_atL, zvn])))
  refine zw_if (fun c3 => ?_) (fun c3 => ?_)
  · exact hj_2 _ (by first | exact True.intro | ((try dsimp only); (repeat' apply And.intro) <;> first | with_reducible assumption | ((try clear hj_2); first | lia | grind [zu_at, zu_atL, zvn])))
  refine zw_some ?_
  first | exact True.intro | ((try dsimp only); (repeat' apply And.intro) <;> first | with_reducible assumption | ((try clear hj_2); first | lia | grind [zu_at, zu_atL, zvn]))
set_option maxHeartbeats 4000000 in
set_option maxRecDepth 100000 in
theorem sf_X4_letsOf (p1 : Int32) (v0_0 : Int32) (f1 : Nat → Int32) (f2 : Nat → Int32) (h_p1 : 0 ≤ p1 ∧ p1 ≤ 1) (h_v0_0 : 0 ≤ v0_0 ∧ v0_0 ≤ 13) : zw (fn_X4_letsOf p1 v0_0 f1 f2) (fun r => True) := by
  unfold fn_X4_letsOf
  refine zw_zg32 28 (by decide) (by (try dsimp only); first | lia | grind [zu_at, zu_atL, zvn]) ?_
  refine zw_if (fun c1 => ?_) (fun c1 => ?_)
  · refine zw_some ?_
    first | exact True.intro | ((try dsimp only); (repeat' apply And.intro) <;> first | with_reducible assumption | first | lia | grind [zu_at, zu_atL, zvn])
  refine zw_if (fun c2 => ?_) (fun c2 => ?_)
  · refine zw_some ?_
    first | exact True.intro | ((try dsimp only); (repeat' apply And.intro) <;> first | with_reducible assumption | first | lia | grind [zu_at, zu_atL, zvn])
  refine zw_zg32 14 (by decide) (by (try dsimp only); first | lia | grind [zu_at, zu_atL, zvn]) ?_
  refine zw_some ?_
  first | exact True.intro | ((try dsimp only); (repeat' apply And.intro) <;> first | with_reducible assumption | first | lia | grind [zu_at, zu_atL, zvn])
set_option maxHeartbeats 4000000 in
set_option maxRecDepth 100000 in
theorem sf_X4_add (p1 : Int32) (p2 : Int32) (v0_0 : Int32) (v0_1 : Int32) (f1 : Nat → Int32) (f2 : Nat → Int32) (f3 : Nat → Int32) (f4 : Nat → Int32) (f5 : Nat → Int32) (f6 : Nat → Int32) (f7 : Nat → Int32) (h_v0_0 : 0 ≤ v0_0 ∧ v0_0 ≤ 14) : zw (fn_X4_add p1 p2 v0_0 v0_1 f1 f2 f3 f4 f5 f6 f7) (fun r => 0 ≤ r.1 ∧ r.1 ≤ 14 ∧ 1 ≤ r.1) := by
  unfold fn_X4_add
  refine zw_if (fun c1 => ?_) (fun c1 => ?_)
  · refine zw_zg32 14 (by decide) (by (try dsimp only); first | lia | grind [zu_at, zu_atL, zvn]) ?_
    refine zw_zj (fun s_3 => True) (fun s_3 Hj_3 => ?_) (fun j_3 hj_3 => ?_)
    · refine zw_zg32 14 (by decide) (by (try dsimp only); ((try clear hj_3); first | lia | grind [zu_at, zu_atL, zvn])) ?_
      refine zw_zj (fun s_5 => 0 ≤ s_5 ∧ s_5 ≤ 1) (fun s_5 Hj_5 => ?_) (fun j_5 hj_5 => ?_)
      · obtain ⟨Hj_5_0, Hj_5_1⟩ := Hj_5
        refine zw_some ?_
        first | exact True.intro | ((try dsimp only); (repeat' apply And.intro) <;> first | with_reducible assumption | ((try clear hj_3); (try clear hj_5); first | lia | grind [zu_at, zu_atL, zvn]))
      refine zw_if (fun c2 => ?_) (fun c2 => ?_)
      · exact hj_5 _ (by first | exact True.intro | ((try dsimp only); (repeat' apply And.intro) <;> first | with_reducible assumption | ((try clear hj_3); (try clear hj_5); first | lia | grind [zu_at, zu_atL, zvn])))
      exact hj_5 _ (by first | exact True.intro | ((try dsimp only); (repeat' apply And.intro) <;> first | with_reducible assumption | ((try clear hj_3); (try clear hj_5); first | lia | grind [zu_at, zu_atL, zvn])))
    refine zw_if (fun c3 => ?_) (fun c3 => ?_)
    · exact hj_3 _ (by first | exact True.intro | ((try dsimp only); (repeat' apply And.intro) <;> first | with_reducible assumption | ((try clear hj_3); (try clear hj_5); first | lia | grind [zu_at, zu_atL, zvn])))
    refine zw_zb0 (sf_X4_letsOf 0 v0_0 f6 f7 (by first | with_reducible assumption | exact ⟨by with_reducible assumption, by with_reducible assumption⟩ | ((try clear hj_3); (try clear hj_5); first | lia | grind [zu_at, zu_atL, zvn])) (by first | with_reducible assumption | exact ⟨by with_reducible assumption, by with_reducible assumption⟩ | ((try clear hj_3); (try clear hj_5); first | lia | grind [zu_at, zu_atL, zvn]))) (fun o_8 ho_8 => ?_)
    refine zw_zb0 (sf_X4_letsOf 1 v0_0 f6 f7 (by first | with_reducible assumption | exact ⟨by with_reducible assumption, by with_reducible assumption⟩ | ((try clear hj_3); (try clear hj_5); first | lia | grind [zu_at, zu_atL, zvn])) (by first | with_reducible assumption | exact ⟨by with_reducible assumption, by with_reducible assumption⟩ | ((try clear hj_3); (try clear hj_5); first | lia | grind [zu_at, zu_atL, zvn]))) (fun o_12 ho_12 => ?_)
    exact hj_3 _ (by first | exact True.intro | ((try dsimp only); (repeat' apply And.intro) <;> first | with_reducible assumption | ((try clear hj_3); (try clear hj_5); first | lia | grind [zu_at, zu_atL, zvn])))
  refine zw_some ?_
  first | exact True.intro | ((try dsimp only); (repeat' apply And.intro) <;> first | with_reducible assumption | ((try clear hj_3); (try clear hj_5); first | lia | grind [zu_at, zu_atL, zvn]))
set_option maxHeartbeats 4000000 in
set_option maxRecDepth 100000 in
theorem sf_X4_join (p1 : Int32) (p2 : Int32) (v0_0 : Int32) (f1 : Nat → Int32) (h_v0_0 : 0 ≤ v0_0 ∧ v0_0 ≤ 14) : zw (fn_X4_join p1 p2 v0_0 f1) (fun r => True) := by
  unfold fn_X4_join
  refine zw_if (fun c1 => ?_) (fun c1 => ?_)
  · refine zw_some ?_
    first | exact True.intro | ((try dsimp only); (repeat' apply And.intro) <;> first | with_reducible assumption | first | lia | grind [zu_at, zu_atL, zvn])
  refine zw_if (fun c2 => ?_) (fun c2 => ?_)
  · refine zw_some ?_
    first | exact True.intro | ((try dsimp only); (repeat' apply And.intro) <;> first | with_reducible assumption | first | lia | grind [zu_at, zu_atL, zvn])
  refine zw_if (fun c3 => ?_) (fun c3 => ?_)
  · refine zw_some ?_
    first | exact True.intro | ((try dsimp only); (repeat' apply And.intro) <;> first | with_reducible assumption | first | lia | grind [zu_at, zu_atL, zvn])
  refine zw_if (fun c4 => ?_) (fun c4 => ?_)
  · refine zw_zg32 14 (by decide) (by (try dsimp only); first | lia | grind [zu_at, zu_atL, zvn]) ?_
    refine zw_zl32 (fun s_6 => 0 ≤ s_6.1 ∧ s_6.1 ≤ 14 ∧ s_6.1 ≤ v0_0) (fun s_6 => 14 - s_6.1) (by (try dsimp only); (repeat' apply And.intro) <;> first | with_reducible assumption | first | lia | grind [zu_at, zu_atL, zvn]) (by (try dsimp only); first | lia | grind [zu_at, zu_atL, zvn]) (fun s_6 back_6 Hback_6 hback_6 => ?_)
    obtain ⟨s_6_0, s_6_1⟩ := s_6
    try dsimp only at Hback_6 hback_6
    obtain ⟨Hback_6_0, Hback_6_1, Hback_6_2⟩ := Hback_6
    refine zw_if (fun c5 => ?_) (fun c5 => ?_)
    · refine zw_some ?_
      first | exact True.intro | ((try dsimp only); (repeat' apply And.intro) <;> first | with_reducible assumption | ((try clear hback_6); first | lia | grind [zu_at, zu_atL, zvn]))
    refine zw_zg32 14 (by decide) (by (try dsimp only); ((try clear hback_6); first | lia | grind [zu_at, zu_atL, zvn])) ?_
    refine zw_if (fun c6 => ?_) (fun c6 => ?_)
    · refine zw_zg32 14 (by decide) (by (try dsimp only); ((try clear hback_6); first | lia | grind [zu_at, zu_atL, zvn])) ?_
      exact hback_6 _ (by (try dsimp only); (repeat' apply And.intro) <;> first | with_reducible assumption | ((try clear hback_6); first | lia | grind [zu_at, zu_atL, zvn])) (by (try dsimp only); ((try clear hback_6); first | lia | grind [zu_at, zu_atL, zvn])) (by (try dsimp only); ((try clear hback_6); first | lia | grind [zu_at, zu_atL, zvn]))
    exact hback_6 _ (by (try dsimp only); (repeat' apply And.intro) <;> first | with_reducible assumption | ((try clear hback_6); first | lia | grind [zu_at, zu_atL, zvn])) (by (try dsimp only); ((try clear hback_6); first | lia | grind [zu_at, zu_atL, zvn])) (by (try dsimp only); ((try clear hback_6); first | lia | grind [zu_at, zu_atL, zvn]))
  refine zw_some ?_
  first | exact True.intro | ((try dsimp only); (repeat' apply And.intro) <;> first | with_reducible assumption | ((try clear hback_6); first | lia | grind [zu_at, zu_atL, zvn]))
set_option maxHeartbeats 4000000 in
set_option maxRecDepth 100000 in
theorem sf_X4_find (p1 : Int32) (v0_0 : Int32) (f1 : Nat → Int32) (h_v0_0 : 0 ≤ v0_0 ∧ v0_0 ≤ 14) : zw (fn_X4_find p1 v0_0 f1) (fun r => (-1) ≤ r ∧ r ≤ 13) := by
  unfold fn_X4_find
  refine zw_zl32 (fun s_1 => 0 ≤ s_1 ∧ s_1 ≤ 14 ∧ s_1 ≤ v0_0) (fun s_1 => 14 - s_1) (by (try dsimp only); (repeat' apply And.intro) <;> first | with_reducible assumption | first | lia | grind [zu_at, zu_atL, zvn]) (by (try dsimp only); first | lia | grind [zu_at, zu_atL, zvn]) (fun s_1 back_1 Hback_1 hback_1 => ?_)
  obtain ⟨Hback_1_0, Hback_1_1, Hback_1_2⟩ := Hback_1
  refine zw_if (fun c1 => ?_) (fun c1 => ?_)
  · refine zw_some ?_
    first | exact True.intro | ((try dsimp only); (repeat' apply And.intro) <;> first | with_reducible assumption | ((try clear hback_1); first | lia | grind [zu_at, zu_atL, zvn]))
  refine zw_zg32 14 (by decide) (by (try dsimp only); ((try clear hback_1); first | lia | grind [zu_at, zu_atL, zvn])) ?_
  refine zw_if (fun c2 => ?_) (fun c2 => ?_)
  · refine zw_some ?_
    first | exact True.intro | ((try dsimp only); (repeat' apply And.intro) <;> first | with_reducible assumption | ((try clear hback_1); first | lia | grind [zu_at, zu_atL, zvn]))
  exact hback_1 _ (by (try dsimp only); (repeat' apply And.intro) <;> first | with_reducible assumption | ((try clear hback_1); first | lia | grind [zu_at, zu_atL, zvn])) (by (try dsimp only); ((try clear hback_1); first | lia | grind [zu_at, zu_atL, zvn])) (by (try dsimp only); ((try clear hback_1); first | lia | grind [zu_at, zu_atL, zvn]))
set_option maxHeartbeats 4000000 in
set_option maxRecDepth 100000 in
theorem sf_X4_fix (p1 : Int32) (p2 : Int32) (v0_0 : Int32) (f1 : Nat → Int32) (h_v0_0 : 0 ≤ v0_0 ∧ v0_0 ≤ 14) : zw (fn_X4_fix p1 p2 v0_0 f1) (fun r => True) := by
  unfold fn_X4_fix
  refine zw_if (fun c1 => ?_) (fun c1 => ?_)
  · refine zw_some ?_
    first | exact True.intro | ((try dsimp only); (repeat' apply And.intro) <;> first | with_reducible assumption | first | lia | grind [zu_at, zu_atL, zvn])
  refine zw_if (fun c2 => ?_) (fun c2 => ?_)
  · refine zw_some ?_
    first | exact True.intro | ((try dsimp only); (repeat' apply And.intro) <;> first | with_reducible assumption | first | lia | grind [zu_at, zu_atL, zvn])
  refine zw_zg32 14 (by decide) (by (try dsimp only); first | lia | grind [zu_at, zu_atL, zvn]) ?_
  refine zw_some ?_
  first | exact True.intro | ((try dsimp only); (repeat' apply And.intro) <;> first | with_reducible assumption | first | lia | grind [zu_at, zu_atL, zvn])
set_option maxHeartbeats 4000000 in
set_option maxRecDepth 100000 in
theorem sf_X4_allow (p1 : Int32) (p2 : Int32) (v0_0 : Int32) (f1 : Nat → Int32) (h_v0_0 : 0 ≤ v0_0 ∧ v0_0 ≤ 14) : zw (fn_X4_allow p1 p2 v0_0 f1) (fun r => True) := by
  unfold fn_X4_allow
  refine zw_if (fun c1 => ?_) (fun c1 => ?_)
  · refine zw_some ?_
    first | exact True.intro | ((try dsimp only); (repeat' apply And.intro) <;> first | with_reducible assumption | first | lia | grind [zu_at, zu_atL, zvn])
  refine zw_if (fun c2 => ?_) (fun c2 => ?_)
  · refine zw_some ?_
    first | exact True.intro | ((try dsimp only); (repeat' apply And.intro) <;> first | with_reducible assumption | first | lia | grind [zu_at, zu_atL, zvn])
  refine zw_zg32 14 (by decide) (by (try dsimp only); first | lia | grind [zu_at, zu_atL, zvn]) ?_
  refine zw_some ?_
  first | exact True.intro | ((try dsimp only); (repeat' apply And.intro) <;> first | with_reducible assumption | first | lia | grind [zu_at, zu_atL, zvn])
set_option maxHeartbeats 4000000 in
set_option maxRecDepth 100000 in
theorem sf_X4_isAmong (p0 : Int32) (p1 : Int32) (p2 : Int32) : zw (fn_X4_isAmong p0 p1 p2) (fun r => 0 ≤ r ∧ r ≤ 1 ∧ (¬ r = 1 → r ≤ 0) ∧ (¬ r = 0 → 1 ≤ r)) := by
  unfold fn_X4_isAmong
  refine zw_if (fun c1 => ?_) (fun c1 => ?_)
  · refine zw_some ?_
    first | exact True.intro | ((try dsimp only); (repeat' apply And.intro) <;> first | with_reducible assumption | first | lia | grind [zu_at, zu_atL, zvn])
  refine zw_if (fun c2 => ?_) (fun c2 => ?_)
  · refine zw_some ?_
    first | exact True.intro | ((try dsimp only); (repeat' apply And.intro) <;> first | with_reducible assumption | first | lia | grind [zu_at, zu_atL, zvn])
  refine zw_if (fun c3 => ?_) (fun c3 => ?_)
  · refine zw_some ?_
    first | exact True.intro | ((try dsimp only); (repeat' apply And.intro) <;> first | with_reducible assumption | first | lia | grind [zu_at, zu_atL, zvn])
  refine zw_some ?_
  first | exact True.intro | ((try dsimp only); (repeat' apply And.intro) <;> first | with_reducible assumption | first | lia | grind [zu_at, zu_atL, zvn])
set_option maxHeartbeats 4000000 in
set_option maxRecDepth 100000 in
theorem sf_X4_madeFrom (p1 : Int32) (v0_0 : Int32) (f1 : Nat → Int32) (h_p1 : 0 ≤ p1 ∧ p1 ≤ 13) (h_v0_0 : 0 ≤ v0_0 ∧ v0_0 ≤ 14) : zw (fn_X4_madeFrom p1 v0_0 f1) (fun r => True) := by
  unfold fn_X4_madeFrom
  refine zw_zl32 (fun s_1 => 1 ≤ s_1.2 ∧ s_1.2 ≤ 14 ∧ p1 < s_1.2) (fun s_1 => 14 - s_1.2) (by (try dsimp only); (repeat' apply And.intro) <;> first | with_reducible assumption | first | lia | grind [zu_at, zu_atL, zvn]) (by (try dsimp only); first | lia | grind [zu_at, zu_atL, zvn]) (fun s_1 back_1 Hback_1 hback_1 => ?_)
  obtain ⟨s_1_0, s_1_1⟩ := s_1
  try dsimp only at Hback_1 hback_1
  obtain ⟨Hback_1_0, Hback_1_1, Hback_1_2⟩ := Hback_1
  refine zw_if (fun c1 => ?_) (fun c1 => ?_)
  · refine zw_some ?_
    first | exact True.intro | ((try dsimp only); (repeat' apply And.intro) <;> first | with_reducible assumption | ((try clear hback_1); first | lia | grind [zu_at, zu_atL, zvn]))
  refine zw_zb0 (sf_X4_madeOf s_1_1 0 v0_0 f1 (by first | with_reducible assumption | exact ⟨by with_reducible assumption, by with_reducible assumption⟩ | ((try clear hback_1); first | lia | grind [zu_at, zu_atL, zvn]))) (fun o_3 ho_3 => ?_)
  refine zw_zb0 (sf_X4_isAmong p1 s_1_0 o_3) (fun o_7 ho_7 => ?_)
  obtain ⟨ho_7_0, ho_7_1, ho_7_2, ho_7_3⟩ := ho_7
  refine zw_if (fun c2 => ?_) (fun c2 => ?_)
  · refine zw_zb0 (sf_X4_madeOf s_1_1 1 v0_0 f1 (by first | with_reducible assumption | exact ⟨by with_reducible assumption, by with_reducible assumption⟩ | ((try clear hback_1); first | lia | grind [zu_at, zu_atL, zvn]))) (fun o_12 ho_12 => ?_)
    refine zw_zb0 (sf_X4_isAmong p1 s_1_0 o_12) (fun o_16 ho_16 => ?_)
    obtain ⟨ho_16_0, ho_16_1, ho_16_2, ho_16_3⟩ := ho_16
    refine zw_if (fun c3 => ?_) (fun c3 => ?_)
    · exact hback_1 _ (by (try dsimp only); (repeat' apply And.intro) <;> first | with_reducible assumption | ((try clear hback_1); first | lia | grind [zu_at, zu_atL, zvn])) (by (try dsimp only); ((try clear hback_1); first | lia | grind [zu_at, zu_atL, zvn])) (by (try dsimp only); ((try clear hback_1); first | lia | grind [zu_at, zu_atL, zvn]))
    exact hback_1 _ (by (try dsimp only); (repeat' apply And.intro) <;> first | with_reducible assumption | ((try clear hback_1); first | lia | grind [zu_at, zu_atL, zvn])) (by (try dsimp only); ((try clear hback_1); first | lia | grind [zu_at, zu_atL, zvn])) (by (try dsimp only); ((try clear hback_1); first | lia | grind [zu_at, zu_atL, zvn]))
  exact hback_1 _ (by (try dsimp only); (repeat' apply And.intro) <;> first | with_reducible assumption | ((try clear hback_1); first | lia | grind [zu_at, zu_atL, zvn])) (by (try dsimp only); ((try clear hback_1); first | lia | grind [zu_at, zu_atL, zvn])) (by (try dsimp only); ((try clear hback_1); first | lia | grind [zu_at, zu_atL, zvn]))
set_option maxHeartbeats 4000000 in
set_option maxRecDepth 100000 in
theorem sf_X9_clear  : zw (fn_X9_clear) (fun r => 0 ≤ r.1 ∧ r.1 ≤ 4 ∧ 0 ≤ r.2.2.1 ∧ r.2.2.1 ≤ 14 ∧ 1 ≤ r.2.1 ∧ 0 ≤ r.2.2.2 ∧ r.1 ≤ 0 ∧ r.2.1 ≤ 1 ∧ r.2.2.1 ≤ 0 ∧ r.2.2.2 ≤ 0) := by
  unfold fn_X9_clear
  refine zw_some ?_
  first | exact True.intro | ((try dsimp only); first | with_reducible assumption | grind [zu_at, zu_atL, zvn] | ((repeat' apply And.intro) <;> first | with_reducible assumption | first | lia | grind [zu_at, zu_atL, zvn]))
set_option maxHeartbeats 4000000 in
set_option maxRecDepth 100000 in
theorem sf_X10_kindOf (p0 : Int32) : zw (fn_X10_kindOf p0) (fun r => 1 ≤ r ∧ r ≤ 5) := by
  unfold fn_X10_kindOf
  refine zw_zj (fun _ => True) (fun s_1 Hj_1 => ?_) (fun j_1 hj_1 => ?_)
  · refine zw_zj (fun _ => True) (fun s_2 Hj_2 => ?_) (fun j_2 hj_2 => ?_)
    · refine zw_if (fun c1 => ?_) (fun c1 => ?_)
      · refine zw_some ?_
        first | exact True.intro | ((try dsimp only); first | with_reducible assumption | grind [zu_at, zu_atL, zvn] | ((repeat' apply And.intro) <;> first | with_reducible assumption | ((try clear hj_1); (try clear hj_2); first | lia | grind [zu_at, zu_atL, zvn])))
      refine zw_if (fun c2 => ?_) (fun c2 => ?_)
      · refine zw_some ?_
        first | exact True.intro | ((try dsimp only); first | with_reducible assumption | grind [zu_at, zu_atL, zvn] | ((repeat' apply And.intro) <;> first | with_reducible assumption | ((try clear hj_1); (try clear hj_2); first | lia | grind [zu_at, zu_atL, zvn])))
      refine zw_some ?_
      first | exact True.intro | ((try dsimp only); first | with_reducible assumption | grind [zu_at, zu_atL, zvn] | ((repeat' apply And.intro) <;> first | with_reducible assumption | ((try clear hj_1); (try clear hj_2); first | lia | grind [zu_at, zu_atL, zvn])))
    refine zw_if (fun c3 => ?_) (fun c3 => ?_)
    · exact hj_2 _ (by first | exact True.intro | ((try dsimp only); first | with_reducible assumption | grind [zu_at, zu_atL, zvn] | ((repeat' apply And.intro) <;> first | with_reducible assumption | ((try clear hj_1); (try clear hj_2); first | lia | grind [zu_at, zu_atL, zvn]))))
    refine zw_if (fun c4 => ?_) (fun c4 => ?_)
    · exact hj_2 _ (by first | exact True.intro | ((try dsimp only); first | with_reducible assumption | grind [zu_at, zu_atL, zvn] | ((repeat' apply And.intro) <;> first | with_reducible assumption | ((try clear hj_1); (try clear hj_2); first | lia | grind [zu_at, zu_atL, zvn]))))
    refine zw_some ?_
    first | exact True.intro | ((try dsimp only); first | with_reducible assumption | grind [zu_at, zu_atL, zvn] | ((repeat' apply And.intro) <;> first | with_reducible assumption | ((try clear hj_1); (try clear hj_2); first | lia | grind [zu_at, zu_atL, zvn])))
  refine zw_if (fun c5 => ?_) (fun c5 => ?_)
  · exact hj_1 _ (by first | exact True.intro | ((try dsimp only); first | with_reducible assumption | grind [zu_at, zu_atL, zvn] | ((repeat' apply And.intro) <;> first | with_reducible assumption | ((try clear hj_1); (try clear hj_2); first | lia | grind [zu_at, zu_atL, zvn]))))
  refine zw_if (fun c6 => ?_) (fun c6 => ?_)
  · exact hj_1 _ (by first | exact True.intro | ((try dsimp only); first | with_reducible assumption | grind [zu_at, zu_atL, zvn] | ((repeat' apply And.intro) <;> first | with_reducible assumption | ((try clear hj_1); (try clear hj_2); first | lia | grind [zu_at, zu_atL, zvn]))))
  refine zw_some ?_
  first | exact True.intro | ((try dsimp only); first | with_reducible assumption | grind [zu_at, zu_atL, zvn] | ((repeat' apply And.intro) <;> first | with_reducible assumption | ((try clear hj_1); (try clear hj_2); first | lia | grind [zu_at, zu_atL, zvn])))
set_option maxHeartbeats 4000000 in
set_option maxRecDepth 100000 in
theorem sf_X10_addByte (p1 : Int32) (p2 : Int32) (v0_4 : Int32) (v0_6 : Int32) (h_v0_4 : 0 ≤ v0_4 ∧ v0_4 ≤ 5) : zw (fn_X10_addByte p1 p2 v0_4 v0_6) (fun r => True) := by
  unfold fn_X10_addByte
  refine zw_if (fun c1 => ?_) (fun c1 => ?_)
  · refine zw_some ?_
    first | exact True.intro | ((try dsimp only); first | with_reducible assumption | grind [zu_at, zu_atL, zvn] | ((repeat' apply And.intro) <;> first | with_reducible assumption | first | lia | grind [zu_at, zu_atL, zvn]))
  refine zw_zj (fun _ => True) (fun s_2 Hj_2 => ?_) (fun j_2 hj_2 => ?_)
  · refine zw_if (fun c2 => ?_) (fun c2 => ?_)
    · refine zw_if (fun c3 => ?_) (fun c3 => ?_)
      · refine zw_some ?_
        first | exact True.intro | ((try dsimp only); first | with_reducible assumption | grind [zu_at, zu_atL, zvn] | ((repeat' apply And.intro) <;> first | with_reducible assumption | ((try clear hj_2); first | lia | grind [zu_at, zu_atL, zvn])))
      refine zw_some ?_
      first | exact True.intro | ((try dsimp only); first | with_reducible assumption | grind [zu_at, zu_atL, zvn] | ((repeat' apply And.intro) <;> first | with_reducible assumption | ((try clear hj_2); first | lia | grind [zu_at, zu_atL, zvn])))
    refine zw_some ?_
    first | exact True.intro | ((try dsimp only); first | with_reducible assumption | grind [zu_at, zu_atL, zvn] | ((repeat' apply And.intro) <;> first | with_reducible assumption | ((try clear hj_2); first | lia | grind [zu_at, zu_atL, zvn])))
  refine zw_if (fun c4 => ?_) (fun c4 => ?_)
  · refine zw_if (fun c5 => ?_) (fun c5 => ?_)
    · exact hj_2 _ (by first | exact True.intro | ((try dsimp only); first | with_reducible assumption | grind [zu_at, zu_atL, zvn] | ((repeat' apply And.intro) <;> first | with_reducible assumption | ((try clear hj_2); first | lia | grind [zu_at, zu_atL, zvn]))))
    refine zw_some ?_
    first | exact True.intro | ((try dsimp only); first | with_reducible assumption | grind [zu_at, zu_atL, zvn] | ((repeat' apply And.intro) <;> first | with_reducible assumption | ((try clear hj_2); first | lia | grind [zu_at, zu_atL, zvn])))
  exact hj_2 _ (by first | exact True.intro | ((try dsimp only); first | with_reducible assumption | grind [zu_at, zu_atL, zvn] | ((repeat' apply And.intro) <;> first | with_reducible assumption | ((try clear hj_2); first | lia | grind [zu_at, zu_atL, zvn]))))
set_option maxHeartbeats 4000000 in
set_option maxRecDepth 100000 in
theorem sf_X10_findOwn (p1 : Int32) (f1 : Nat → Int32) : zw (fn_X10_findOwn p1 f1) (fun r => (-1) ≤ r ∧ r ≤ 12) := by
  unfold fn_X10_findOwn
  refine zw_zl32 (fun s_1 => 0 ≤ s_1 ∧ s_1 ≤ 13) (fun s_1 => 13 - s_1) (by (try dsimp only); first | with_reducible assumption | grind [zu_at, zu_atL, zvn] | ((repeat' apply And.intro) <;> first | with_reducible assumption | first | lia | grind [zu_at, zu_atL, zvn])) (by (try dsimp only); first | lia | grind [zu_at, zu_atL, zvn]) (fun s_1 back_1 Hback_1 hback_1 => ?_)
  obtain ⟨Hback_1_0, Hback_1_1⟩ := Hback_1
  refine zw_if (fun c1 => ?_) (fun c1 => ?_)
  · refine zw_some ?_
    first | exact True.intro | ((try dsimp only); first | with_reducible assumption | grind [zu_at, zu_atL, zvn] | ((repeat' apply And.intro) <;> first | with_reducible assumption | ((try clear hback_1); first | lia | grind [zu_at, zu_atL, zvn])))
  refine zw_zg32 13 (by decide) (by (try dsimp only); ((try clear hback_1); first | lia | grind [zu_at, zu_atL, zvn])) ?_
  refine zw_if (fun c2 => ?_) (fun c2 => ?_)
  · refine zw_some ?_
    first | exact True.intro | ((try dsimp only); first | with_reducible assumption | grind [zu_at, zu_atL, zvn] | ((repeat' apply And.intro) <;> first | with_reducible assumption | ((try clear hback_1); first | lia | grind [zu_at, zu_atL, zvn])))
  exact hback_1 _ (by (try dsimp only); first | with_reducible assumption | grind [zu_at, zu_atL, zvn] | ((repeat' apply And.intro) <;> first | with_reducible assumption | ((try clear hback_1); first | lia | grind [zu_at, zu_atL, zvn]))) (by (try dsimp only); ((try clear hback_1); first | lia | grind [zu_at, zu_atL, zvn])) (by (try dsimp only); ((try clear hback_1); first | lia | grind [zu_at, zu_atL, zvn]))
set_option maxHeartbeats 4000000 in
set_option maxRecDepth 100000 in
theorem sf_X10_advance (v0_2 : Int32) (v0_3 : Int32) (v0_4 : Int32) (f1 : Nat → Int32) (f2 : Nat → Int32) (h_v0_2 : 0 ≤ v0_2 ∧ v0_2 ≤ 1200) (h_v0_3 : 0 ≤ v0_3 ∧ v0_3 ≤ 1200) (h_v0_4 : 0 ≤ v0_4 ∧ v0_4 ≤ 5) : zw (fn_X10_advance v0_2 v0_3 v0_4 f1 f2) (fun r => 0 ≤ r.1 ∧ r.1 ≤ 1200 ∧ 0 ≤ r.2.1 ∧ r.2.1 ≤ 5 ∧ 0 ≤ r.2.2.1 ∧ r.2.2.1 ≤ 1200 ∧ (-1) ≤ r.2.2.2.2 ∧ r.2.2.2.2 ≤ 12) := by
  unfold fn_X10_advance
  refine zw_zj (fun s_1 => 0 ≤ s_1 ∧ s_1 ≤ 1 ∧ s_1 ≤ v0_4) (fun s_1 Hj_1 => ?_) (fun j_1 hj_1 => ?_)
  · obtain ⟨Hj_1_0, Hj_1_1, Hj_1_2⟩ := Hj_1
    refine zw_zl32 (fun s_2 => 0 ≤ s_2 ∧ s_2 ≤ 1200 ∧ v0_3 ≤ s_2) (fun s_2 => 1200 - s_2) (by (try dsimp only); first | with_reducible assumption | grind [zu_at, zu_atL, zvn] | ((repeat' apply And.intro) <;> first | with_reducible assumption | ((try clear hj_1); first | lia | grind [zu_at, zu_atL, zvn]))) (by (try dsimp only); ((try clear hj_1); first | lia | grind [zu_at, zu_atL, zvn])) (fun s_2 back_2 Hback_2 hback_2 => ?_)
    obtain ⟨Hback_2_0, Hback_2_1, Hback_2_2⟩ := Hback_2
    refine zw_zj (fun _ => True) (fun s_3 Hj_3 => ?_) (fun j_3 hj_3 => ?_)
    · refine zw_zj (fun s_4 => 0 ≤ s_4 ∧ s_4 ≤ 5 ∧ s_4 ≤ v0_2 + 4) (fun s_4 Hj_4 => ?_) (fun j_4 hj_4 => ?_)
      · obtain ⟨Hj_4_0, Hj_4_1, Hj_4_2⟩ := Hj_4
        refine zw_zl32 (fun s_5 => 0 ≤ s_5.1 ∧ s_5.1 ≤ 1200 ∧ 0 ≤ s_5.2.1 ∧ s_5.2.1 ≤ 1200 ∧ s_5.1 ≤ v0_2 ∧ s_2 ≤ s_5.2.1 ∧ s_5.1 ≤ s_5.2.1) (fun s_5 => 1200 - s_5.1) (by (try dsimp only); first | with_reducible assumption | grind [zu_at, zu_atL, zvn] | ((repeat' apply And.intro) <;> first | with_reducible assumption | ((try clear hj_1); (try clear hback_2); (try clear hj_3); (try clear hj_4); first | lia | grind [zu_at, zu_atL, zvn]))) (by (try dsimp only); ((try clear hj_1); (try clear hback_2); (try clear hj_3); (try clear hj_4); first | lia | grind [zu_at, zu_atL, zvn])) (fun s_5 back_5 Hback_5 hback_5 => ?_)
        obtain ⟨s_5_0, s_5_1, s_5_2⟩ := s_5
        try dsimp only at Hback_5 hback_5
        obtain ⟨Hback_5_0, Hback_5_1, Hback_5_2, Hback_5_3, Hback_5_4, Hback_5_5, Hback_5_6⟩ := Hback_5
        refine zw_zj (fun _ => True) (fun s_6 Hj_6 => ?_) (fun j_6 hj_6 => ?_)
        · refine zw_zj (fun s_7 => 0 ≤ s_7 ∧ s_7 ≤ 1 ∧ s_7 ≤ s_1 ∧ s_7 ≤ s_4) (fun s_7 Hj_7 => ?_) (fun j_7 hj_7 => ?_)
          · obtain ⟨Hj_7_0, Hj_7_1, Hj_7_2, Hj_7_3⟩ := Hj_7
            refine zw_zj (fun s_8 => 0 ≤ s_8 ∧ s_8 ≤ 5 ∧ s_7 ≤ s_8 ∧ s_4 ≤ s_8 + 1 ∧ s_8 ≤ s_4 + 3 ∧ s_8 ≤ v0_2 + 4) (fun s_8 Hj_8 => ?_) (fun j_8 hj_8 => ?_)
            · obtain ⟨Hj_8_0, Hj_8_1, Hj_8_2, Hj_8_3, Hj_8_4, Hj_8_5⟩ := Hj_8
              refine zw_if (fun c1 => ?_) (fun c1 => ?_)
              · refine zw_zb0 (sf_X10_findOwn s_5_2 f2) (fun o_10 ho_10 => ?_)
                obtain ⟨ho_10_0, ho_10_1⟩ := ho_10
                refine zw_some ?_
                first | exact True.intro | ((try dsimp only); first | with_reducible assumption | grind [zu_at, zu_atL, zvn] | ((repeat' apply And.intro) <;> first | with_reducible assumption | ((try clear hj_1); (try clear hback_2); (try clear hj_3); (try clear hj_4); (try clear hback_5); (try clear hj_6); (try clear hj_7); (try clear hj_8); first | lia | grind [zu_at, zu_atL, zvn])))
              refine zw_some ?_
              first | exact True.intro | ((try dsimp only); first | with_reducible assumption | grind [zu_at, zu_atL, zvn] | ((repeat' apply And.intro) <;> first | with_reducible assumption | ((try clear hj_1); (try clear hback_2); (try clear hj_3); (try clear hj_4); (try clear hback_5); (try clear hj_6); (try clear hj_7); (try clear hj_8); first | lia | grind [zu_at, zu_atL, zvn])))
            refine zw_zj (fun _ => 1 ≤ s_4 ∧ s_4 ≤ s_1 + 4 ∧ s_4 ≤ s_7 + 4) (fun s_14 Hj_14 => ?_) (fun j_14 hj_14 => ?_)
            · obtain ⟨Hj_14_0, Hj_14_1, Hj_14_2⟩ := Hj_14
              exact hj_8 _ (by first | exact True.intro | ((try dsimp only); first | with_reducible assumption | grind [zu_at, zu_atL, zvn] | ((repeat' apply And.intro) <;> first | with_reducible assumption | ((try clear hj_1); (try clear hback_2); (try clear hj_3); (try clear hj_4); (try clear hback_5); (try clear hj_6); (try clear hj_7); (try clear hj_8); (try clear hj_14); first | lia | grind [zu_at, zu_atL, zvn]))))
            refine zw_if (fun c2 => ?_) (fun c2 => ?_)
            · refine zw_zj (fun _ => True) (fun s_16 Hj_16 => ?_) (fun j_16 hj_16 => ?_)
              · refine zw_if (fun c3 => ?_) (fun c3 => ?_)
                · refine zw_if (fun c4 => ?_) (fun c4 => ?_)
                  · exact hj_8 _ (by first | exact True.intro | ((try dsimp only); first | with_reducible assumption | grind [zu_at, zu_atL, zvn] | ((repeat' apply And.intro) <;> first | with_reducible assumption | ((try clear hj_1); (try clear hback_2); (try clear hj_3); (try clear hj_4); (try clear hback_5); (try clear hj_6); (try clear hj_7); (try clear hj_8); (try clear hj_14); (try clear hj_16); first | lia | grind [zu_at, zu_atL, zvn]))))
                  exact hj_14 _ (by first | exact True.intro | ((try dsimp only); first | with_reducible assumption | grind [zu_at, zu_atL, zvn] | ((repeat' apply And.intro) <;> first | with_reducible assumption | ((try clear hj_1); (try clear hback_2); (try clear hj_3); (try clear hj_4); (try clear hback_5); (try clear hj_6); (try clear hj_7); (try clear hj_8); (try clear hj_14); (try clear hj_16); first | lia | grind [zu_at, zu_atL, zvn]))))
                exact hj_8 _ (by first | exact True.intro | ((try dsimp only); first | with_reducible assumption | grind [zu_at, zu_atL, zvn] | ((repeat' apply And.intro) <;> first | with_reducible assumption | ((try clear hj_1); (try clear hback_2); (try clear hj_3); (try clear hj_4); (try clear hback_5); (try clear hj_6); (try clear hj_7); (try clear hj_8); (try clear hj_14); (try clear hj_16); first | lia | grind [zu_at, zu_atL, zvn]))))
              refine zw_if (fun c5 => ?_) (fun c5 => ?_)
              · refine zw_if (fun c6 => ?_) (fun c6 => ?_)
                · exact hj_14 _ (by first | exact True.intro | ((try dsimp only); first | with_reducible assumption | grind [zu_at, zu_atL, zvn] | ((repeat' apply And.intro) <;> first | with_reducible assumption | ((try clear hj_1); (try clear hback_2); (try clear hj_3); (try clear hj_4); (try clear hback_5); (try clear hj_6); (try clear hj_7); (try clear hj_8); (try clear hj_14); (try clear hj_16); first | lia | grind [zu_at, zu_atL, zvn]))))
                exact hj_16 _ (by first | exact True.intro | ((try dsimp only); first | with_reducible assumption | grind [zu_at, zu_atL, zvn] | ((repeat' apply And.intro) <;> first | with_reducible assumption | ((try clear hj_1); (try clear hback_2); (try clear hj_3); (try clear hj_4); (try clear hback_5); (try clear hj_6); (try clear hj_7); (try clear hj_8); (try clear hj_14); (try clear hj_16); first | lia | grind [zu_at, zu_atL, zvn]))))
              exact hj_16 _ (by first | exact True.intro | ((try dsimp only); first | with_reducible assumption | grind [zu_at, zu_atL, zvn] | ((repeat' apply And.intro) <;> first | with_reducible assumption | ((try clear hj_1); (try clear hback_2); (try clear hj_3); (try clear hj_4); (try clear hback_5); (try clear hj_6); (try clear hj_7); (try clear hj_8); (try clear hj_14); (try clear hj_16); first | lia | grind [zu_at, zu_atL, zvn]))))
            exact hj_14 _ (by first | exact True.intro | ((try dsimp only); first | with_reducible assumption | grind [zu_at, zu_atL, zvn] | ((repeat' apply And.intro) <;> first | with_reducible assumption | ((try clear hj_1); (try clear hback_2); (try clear hj_3); (try clear hj_4); (try clear hback_5); (try clear hj_6); (try clear hj_7); (try clear hj_8); (try clear hj_14); (try clear hj_16); first | lia | grind [zu_at, zu_atL, zvn]))))
          refine zw_zj (fun _ => True) (fun s_21 Hj_21 => ?_) (fun j_21 hj_21 => ?_)
          · exact hj_7 _ (by first | exact True.intro | ((try dsimp only); first | with_reducible assumption | grind [zu_at, zu_atL, zvn] | ((repeat' apply And.intro) <;> first | with_reducible assumption | ((try clear hj_1); (try clear hback_2); (try clear hj_3); (try clear hj_4); (try clear hback_5); (try clear hj_6); (try clear hj_7); (try clear hj_8); (try clear hj_14); (try clear hj_16); (try clear hj_21); first | lia | grind [zu_at, zu_atL, zvn]))))
          refine zw_if (fun c7 => ?_) (fun c7 => ?_)
          · exact hj_21 _ (by first | exact True.intro | ((try dsimp only); first | with_reducible assumption | grind [zu_at, zu_atL, zvn] | ((repeat' apply And.intro) <;> first | with_reducible assumption | ((try clear hj_1); (try clear hback_2); (try clear hj_3); (try clear hj_4); (try clear hback_5); (try clear hj_6); (try clear hj_7); (try clear hj_8); (try clear hj_14); (try clear hj_16); (try clear hj_21); first | lia | grind [zu_at, zu_atL, zvn]))))
          refine zw_if (fun c8 => ?_) (fun c8 => ?_)
          · refine zw_zj (fun _ => 1 ≤ s_4 ∧ s_4 ≤ 2) (fun s_24 Hj_24 => ?_) (fun j_24 hj_24 => ?_)
            · obtain ⟨Hj_24_0, Hj_24_1⟩ := Hj_24
              exact hj_7 _ (by first | exact True.intro | ((try dsimp only); first | with_reducible assumption | grind [zu_at, zu_atL, zvn] | ((repeat' apply And.intro) <;> first | with_reducible assumption | ((try clear hj_1); (try clear hback_2); (try clear hj_3); (try clear hj_4); (try clear hback_5); (try clear hj_6); (try clear hj_7); (try clear hj_8); (try clear hj_14); (try clear hj_16); (try clear hj_21); (try clear hj_24); first | lia | grind [zu_at, zu_atL, zvn]))))
            refine zw_if (fun c9 => ?_) (fun c9 => ?_)
            · exact hj_24 _ (by first | exact True.intro | ((try dsimp only); first | with_reducible assumption | grind [zu_at, zu_atL, zvn] | ((repeat' apply And.intro) <;> first | with_reducible assumption | ((try clear hj_1); (try clear hback_2); (try clear hj_3); (try clear hj_4); (try clear hback_5); (try clear hj_6); (try clear hj_7); (try clear hj_8); (try clear hj_14); (try clear hj_16); (try clear hj_21); (try clear hj_24); first | lia | grind [zu_at, zu_atL, zvn]))))
            refine zw_if (fun c10 => ?_) (fun c10 => ?_)
            · exact hj_24 _ (by first | exact True.intro | ((try dsimp only); first | with_reducible assumption | grind [zu_at, zu_atL, zvn] | ((repeat' apply And.intro) <;> first | with_reducible assumption | ((try clear hj_1); (try clear hback_2); (try clear hj_3); (try clear hj_4); (try clear hback_5); (try clear hj_6); (try clear hj_7); (try clear hj_8); (try clear hj_14); (try clear hj_16); (try clear hj_21); (try clear hj_24); first | lia | grind [zu_at, zu_atL, zvn]))))
            exact hj_21 _ (by first | exact True.intro | ((try dsimp only); first | with_reducible assumption | grind [zu_at, zu_atL, zvn] | ((repeat' apply And.intro) <;> first | with_reducible assumption | ((try clear hj_1); (try clear hback_2); (try clear hj_3); (try clear hj_4); (try clear hback_5); (try clear hj_6); (try clear hj_7); (try clear hj_8); (try clear hj_14); (try clear hj_16); (try clear hj_21); (try clear hj_24); first | lia | grind [zu_at, zu_atL, zvn]))))
          exact hj_21 _ (by first | exact True.intro | ((try dsimp only); first | with_reducible assumption | grind [zu_at, zu_atL, zvn] | ((repeat' apply And.intro) <;> first | with_reducible assumption | ((try clear hj_1); (try clear hback_2); (try clear hj_3); (try clear hj_4); (try clear hback_5); (try clear hj_6); (try clear hj_7); (try clear hj_8); (try clear hj_14); (try clear hj_16); (try clear hj_21); (try clear hj_24); first | lia | grind [zu_at, zu_atL, zvn]))))
        refine zw_if (fun c11 => ?_) (fun c11 => ?_)
        · exact hj_6 _ (by first | exact True.intro | ((try dsimp only); first | with_reducible assumption | grind [zu_at, zu_atL, zvn] | ((repeat' apply And.intro) <;> first | with_reducible assumption | ((try clear hj_1); (try clear hback_2); (try clear hj_3); (try clear hj_4); (try clear hback_5); (try clear hj_6); (try clear hj_7); (try clear hj_8); (try clear hj_14); (try clear hj_16); (try clear hj_21); (try clear hj_24); first | lia | grind [zu_at, zu_atL, zvn]))))
        refine zw_zg32 1200 (by decide) (by (try dsimp only); ((try clear hj_1); (try clear hback_2); (try clear hj_3); (try clear hj_4); (try clear hback_5); (try clear hj_6); (try clear hj_7); (try clear hj_8); (try clear hj_14); (try clear hj_16); (try clear hj_21); (try clear hj_24); first | lia | grind [zu_at, zu_atL, zvn])) ?_
        refine zw_zb0 (sf_X10_kindOf (f1 s_5_1.toNatClampNeg)) (fun o_29 ho_29 => ?_)
        obtain ⟨ho_29_0, ho_29_1⟩ := ho_29
        refine zw_if (fun c12 => ?_) (fun c12 => ?_)
        · refine zw_zj (fun _ => True) (fun s_34 Hj_34 => ?_) (fun j_34 hj_34 => ?_)
          · refine zw_zg32 1200 (by decide) (by (try dsimp only); ((try clear hj_1); (try clear hback_2); (try clear hj_3); (try clear hj_4); (try clear hback_5); (try clear hj_6); (try clear hj_7); (try clear hj_8); (try clear hj_14); (try clear hj_16); (try clear hj_21); (try clear hj_24); (try clear hj_34); first | lia | grind [zu_at, zu_atL, zvn])) ?_
            refine zw_zb0 (sf_X10_addByte (f1 s_5_1.toNatClampNeg) (s_5_0 + 1) s_4 s_5_2 (by first | with_reducible assumption | exact ⟨by with_reducible assumption, by with_reducible assumption⟩ | ((try clear hj_1); (try clear hback_2); (try clear hj_3); (try clear hj_4); (try clear hback_5); (try clear hj_6); (try clear hj_7); (try clear hj_8); (try clear hj_14); (try clear hj_16); (try clear hj_21); (try clear hj_24); (try clear hj_34); first | lia | grind [zu_at, zu_atL, zvn]))) (fun o_36 ho_36 => ?_)
            exact hback_5 _ (by (try dsimp only); first | with_reducible assumption | grind [zu_at, zu_atL, zvn] | ((repeat' apply And.intro) <;> first | with_reducible assumption | ((try clear hj_1); (try clear hback_2); (try clear hj_3); (try clear hj_4); (try clear hback_5); (try clear hj_6); (try clear hj_7); (try clear hj_8); (try clear hj_14); (try clear hj_16); (try clear hj_21); (try clear hj_24); (try clear hj_34); first | lia | grind [zu_at, zu_atL, zvn]))) (by (try dsimp only); ((try clear hj_1); (try clear hback_2); (try clear hj_3); (try clear hj_4); (try clear hback_5); (try clear hj_6); (try clear hj_7); (try clear hj_8); (try clear hj_14); (try clear hj_16); (try clear hj_21); (try clear hj_24); (try clear hj_34); first | lia | grind [zu_at, zu_atL, zvn])) (by (try dsimp only); ((try clear hj_1); (try clear hback_2); (try clear hj_3); (try clear hj_4); (try clear hback_5); (try clear hj_6); (try clear hj_7); (try clear hj_8); (try clear hj_14); (try clear hj_16); (try clear hj_21); (try clear hj_24); (try clear hj_34); first | lia | grind [zu_at, zu_atL, zvn]))
          refine zw_if (fun c13 => ?_) (fun c13 => ?_)
          · refine zw_if (fun c14 => ?_) (fun c14 => ?_)
            · exact hj_34 _ (by first | exact True.intro | ((try dsimp only); first | with_reducible assumption | grind [zu_at, zu_atL, zvn] | ((repeat' apply And.intro) <;> first | with_reducible assumption | ((try clear hj_1); (try clear hback_2); (try clear hj_3); (try clear hj_4); (try clear hback_5); (try clear hj_6); (try clear hj_7); (try clear hj_8); (try clear hj_14); (try clear hj_16); (try clear hj_21); (try clear hj_24); (try clear hj_34); first | lia | grind [zu_at, zu_atL, zvn]))))
            exact hj_6 _ (by first | exact True.intro | ((try dsimp only); first | with_reducible assumption | grind [zu_at, zu_atL, zvn] | ((repeat' apply And.intro) <;> first | with_reducible assumption | ((try clear hj_1); (try clear hback_2); (try clear hj_3); (try clear hj_4); (try clear hback_5); (try clear hj_6); (try clear hj_7); (try clear hj_8); (try clear hj_14); (try clear hj_16); (try clear hj_21); (try clear hj_24); (try clear hj_34); first | lia | grind [zu_at, zu_atL, zvn]))))
          exact hj_34 _ (by first | exact True.intro | ((try dsimp only); first | with_reducible assumption | grind [zu_at, zu_atL, zvn] | ((repeat' apply And.intro) <;> first | with_reducible assumption | ((try clear hj_1); (try clear hback_2); (try clear hj_3); (try clear hj_4); (try clear hback_5); (try clear hj_6); (try clear hj_7); (try clear hj_8); (try clear hj_14); (try clear hj_16); (try clear hj_21); (try clear hj_24); (try clear hj_34); first | lia | grind [zu_at, zu_atL, zvn]))))
        exact hj_6 _ (by first | exact True.intro | ((try dsimp only); first | with_reducible assumption | grind [zu_at, zu_atL, zvn] | ((repeat' apply And.intro) <;> first | with_reducible assumption | ((try clear hj_1); (try clear hback_2); (try clear hj_3); (try clear hj_4); (try clear hback_5); (try clear hj_6); (try clear hj_7); (try clear hj_8); (try clear hj_14); (try clear hj_16); (try clear hj_21); (try clear hj_24); (try clear hj_34); first | lia | grind [zu_at, zu_atL, zvn]))))
      refine zw_if (fun c15 => ?_) (fun c15 => ?_)
      · exact hj_4 _ (by first | exact True.intro | ((try dsimp only); first | with_reducible assumption | grind [zu_at, zu_atL, zvn] | ((repeat' apply And.intro) <;> first | with_reducible assumption | ((try clear hj_1); (try clear hback_2); (try clear hj_3); (try clear hj_4); (try clear hback_5); (try clear hj_6); (try clear hj_7); (try clear hj_8); (try clear hj_14); (try clear hj_16); (try clear hj_21); (try clear hj_24); (try clear hj_34); first | lia | grind [zu_at, zu_atL, zvn]))))
      refine zw_zg32 1200 (by decide) (by (try dsimp only); ((try clear hj_1); (try clear hback_2); (try clear hj_3); (try clear hj_4); (try clear hback_5); (try clear hj_6); (try clear hj_7); (try clear hj_8); (try clear hj_14); (try clear hj_16); (try clear hj_21); (try clear hj_24); (try clear hj_34); first | lia | grind [zu_at, zu_atL, zvn])) ?_
      refine zw_zb0 (sf_X10_kindOf (f1 s_2.toNatClampNeg)) (fun o_44 ho_44 => ?_)
      obtain ⟨ho_44_0, ho_44_1⟩ := ho_44
      exact hj_4 _ (by first | exact True.intro | ((try dsimp only); first | with_reducible assumption | grind [zu_at, zu_atL, zvn] | ((repeat' apply And.intro) <;> first | with_reducible assumption | ((try clear hj_1); (try clear hback_2); (try clear hj_3); (try clear hj_4); (try clear hback_5); (try clear hj_6); (try clear hj_7); (try clear hj_8); (try clear hj_14); (try clear hj_16); (try clear hj_21); (try clear hj_24); (try clear hj_34); first | lia | grind [zu_at, zu_atL, zvn]))))
    refine zw_if (fun c16 => ?_) (fun c16 => ?_)
    · exact hj_3 _ (by first | exact True.intro | ((try dsimp only); first | with_reducible assumption | grind [zu_at, zu_atL, zvn] | ((repeat' apply And.intro) <;> first | with_reducible assumption | ((try clear hj_1); (try clear hback_2); (try clear hj_3); (try clear hj_4); (try clear hback_5); (try clear hj_6); (try clear hj_7); (try clear hj_8); (try clear hj_14); (try clear hj_16); (try clear hj_21); (try clear hj_24); (try clear hj_34); first | lia | grind [zu_at, zu_atL, zvn]))))
    refine zw_zg32 1200 (by decide) (by (try dsimp only); ((try clear hj_1); (try clear hback_2); (try clear hj_3); (try clear hj_4); (try clear hback_5); (try clear hj_6); (try clear hj_7); (try clear hj_8); (try clear hj_14); (try clear hj_16); (try clear hj_21); (try clear hj_24); (try clear hj_34); first | lia | grind [zu_at, zu_atL, zvn])) ?_
    refine zw_zb0 (sf_X10_kindOf (f1 s_2.toNatClampNeg)) (fun o_50 ho_50 => ?_)
    obtain ⟨ho_50_0, ho_50_1⟩ := ho_50
    refine zw_if (fun c17 => ?_) (fun c17 => ?_)
    · exact hback_2 _ (by (try dsimp only); first | with_reducible assumption | grind [zu_at, zu_atL, zvn] | ((repeat' apply And.intro) <;> first | with_reducible assumption | ((try clear hj_1); (try clear hback_2); (try clear hj_3); (try clear hj_4); (try clear hback_5); (try clear hj_6); (try clear hj_7); (try clear hj_8); (try clear hj_14); (try clear hj_16); (try clear hj_21); (try clear hj_24); (try clear hj_34); first | lia | grind [zu_at, zu_atL, zvn]))) (by (try dsimp only); ((try clear hj_1); (try clear hback_2); (try clear hj_3); (try clear hj_4); (try clear hback_5); (try clear hj_6); (try clear hj_7); (try clear hj_8); (try clear hj_14); (try clear hj_16); (try clear hj_21); (try clear hj_24); (try clear hj_34); first | lia | grind [zu_at, zu_atL, zvn])) (by (try dsimp only); ((try clear hj_1); (try clear hback_2); (try clear hj_3); (try clear hj_4); (try clear hback_5); (try clear hj_6); (try clear hj_7); (try clear hj_8); (try clear hj_14); (try clear hj_16); (try clear hj_21); (try clear hj_24); (try clear hj_34); first | lia | grind [zu_at, zu_atL, zvn]))
    exact hj_3 _ (by first | exact True.intro | ((try dsimp only); first | with_reducible assumption | grind [zu_at, zu_atL, zvn] | ((repeat' apply And.intro) <;> first | with_reducible assumption | ((try clear hj_1); (try clear hback_2); (try clear hj_3); (try clear hj_4); (try clear hback_5); (try clear hj_6); (try clear hj_7); (try clear hj_8); (try clear hj_14); (try clear hj_16); (try clear hj_21); (try clear hj_24); (try clear hj_34); first | lia | grind [zu_at, zu_atL, zvn]))))
  refine zw_zj (fun _ => 1 ≤ v0_4 ∧ v0_4 ≤ 2) (fun s_55 Hj_55 => ?_) (fun j_55 hj_55 => ?_)
  · obtain ⟨Hj_55_0, Hj_55_1⟩ := Hj_55
    exact hj_1 _ (by first | exact True.intro | ((try dsimp only); first | with_reducible assumption | grind [zu_at, zu_atL, zvn] | ((repeat' apply And.intro) <;> first | with_reducible assumption | ((try clear hj_1); (try clear hback_2); (try clear hj_3); (try clear hj_4); (try clear hback_5); (try clear hj_6); (try clear hj_7); (try clear hj_8); (try clear hj_14); (try clear hj_16); (try clear hj_21); (try clear hj_24); (try clear hj_34); (try clear hj_55); first | lia | grind [zu_at, zu_atL, zvn]))))
  refine zw_if (fun c18 => ?_) (fun c18 => ?_)
  · exact hj_55 _ (by first | exact True.intro | ((try dsimp only); first | with_reducible assumption | grind [zu_at, zu_atL, zvn] | ((repeat' apply And.intro) <;> first | with_reducible assumption | ((try clear hj_1); (try clear hback_2); (try clear hj_3); (try clear hj_4); (try clear hback_5); (try clear hj_6); (try clear hj_7); (try clear hj_8); (try clear hj_14); (try clear hj_16); (try clear hj_21); (try clear hj_24); (try clear hj_34); (try clear hj_55); first | lia | grind [zu_at, zu_atL, zvn]))))
  refine zw_if (fun c19 => ?_) (fun c19 => ?_)
  · exact hj_55 _ (by first | exact True.intro | ((try dsimp only); first | with_reducible assumption | grind [zu_at, zu_atL, zvn] | ((repeat' apply And.intro) <;> first | with_reducible assumption | ((try clear hj_1); (try clear hback_2); (try clear hj_3); (try clear hj_4); (try clear hback_5); (try clear hj_6); (try clear hj_7); (try clear hj_8); (try clear hj_14); (try clear hj_16); (try clear hj_21); (try clear hj_24); (try clear hj_34); (try clear hj_55); first | lia | grind [zu_at, zu_atL, zvn]))))
  exact hj_1 _ (by first | exact True.intro | ((try dsimp only); first | with_reducible assumption | grind [zu_at, zu_atL, zvn] | ((repeat' apply And.intro) <;> first | with_reducible assumption | ((try clear hj_1); (try clear hback_2); (try clear hj_3); (try clear hj_4); (try clear hback_5); (try clear hj_6); (try clear hj_7); (try clear hj_8); (try clear hj_14); (try clear hj_16); (try clear hj_21); (try clear hj_24); (try clear hj_34); (try clear hj_55); first | lia | grind [zu_at, zu_atL, zvn]))))
set_option maxHeartbeats 4000000 in
set_option maxRecDepth 100000 in
theorem sf_X10_open (p2 : Int32) (f1 : Nat → Int32) (f2 : Nat → Int32) : zw (fn_X10_open p2 f1 f2) (fun r => 0 ≤ r.1 ∧ r.1 ≤ 1200 ∧ 0 ≤ r.2.1 ∧ r.2.1 ≤ 1200 ∧ 0 ≤ r.2.2.1 ∧ r.2.2.1 ≤ 5 ∧ 0 ≤ r.2.2.2.1 ∧ r.2.2.2.1 ≤ 1200 ∧ (-1) ≤ r.2.2.2.2.2 ∧ r.2.2.2.2.2 ≤ 12) := by
  unfold fn_X10_open
  refine zw_zn (fun x_1 ex_1 => ?_)
  refine zw_zb0 (sf_X10_advance x_1 0 0 f1 f2 (by first | with_reducible assumption | exact ⟨by with_reducible assumption, by with_reducible assumption⟩ | first | lia | grind [zu_at, zu_atL, zvn]) (by first | with_reducible assumption | exact ⟨by with_reducible assumption, by with_reducible assumption⟩ | first | lia | grind [zu_at, zu_atL, zvn]) (by first | with_reducible assumption | exact ⟨by with_reducible assumption, by with_reducible assumption⟩ | first | lia | grind [zu_at, zu_atL, zvn])) (fun o_2 ho_2 => ?_)
  obtain ⟨o_2_0, o_2_1, o_2_2, o_2_3, o_2_4⟩ := o_2
  try dsimp only at ho_2
  obtain ⟨ho_2_0, ho_2_1, ho_2_2, ho_2_3, ho_2_4, ho_2_5, ho_2_6, ho_2_7⟩ := ho_2
  refine zw_some ?_
  first | exact True.intro | ((try dsimp only); first | with_reducible assumption | grind [zu_at, zu_atL, zvn] | ((repeat' apply And.intro) <;> first | with_reducible assumption | first | lia | grind [zu_at, zu_atL, zvn]))
set_option maxHeartbeats 4000000 in
set_option maxRecDepth 100000 in
theorem sf_X5_startsStatement (p0 : Int32) : zw (fn_X5_startsStatement p0) (fun r => 0 ≤ r ∧ r ≤ 1) := by
  unfold fn_X5_startsStatement
  refine zw_if (fun c1 => ?_) (fun c1 => ?_)
  · refine zw_some ?_
    first | exact True.intro | ((try dsimp only); first | with_reducible assumption | grind [zu_at, zu_atL, zvn] | ((repeat' apply And.intro) <;> first | with_reducible assumption | first | lia | grind [zu_at, zu_atL, zvn]))
  refine zw_if (fun c2 => ?_) (fun c2 => ?_)
  · refine zw_some ?_
    first | exact True.intro | ((try dsimp only); first | with_reducible assumption | grind [zu_at, zu_atL, zvn] | ((repeat' apply And.intro) <;> first | with_reducible assumption | first | lia | grind [zu_at, zu_atL, zvn]))
  refine zw_if (fun c3 => ?_) (fun c3 => ?_)
  · refine zw_some ?_
    first | exact True.intro | ((try dsimp only); first | with_reducible assumption | grind [zu_at, zu_atL, zvn] | ((repeat' apply And.intro) <;> first | with_reducible assumption | first | lia | grind [zu_at, zu_atL, zvn]))
  refine zw_if (fun c4 => ?_) (fun c4 => ?_)
  · refine zw_some ?_
    first | exact True.intro | ((try dsimp only); first | with_reducible assumption | grind [zu_at, zu_atL, zvn] | ((repeat' apply And.intro) <;> first | with_reducible assumption | first | lia | grind [zu_at, zu_atL, zvn]))
  refine zw_if (fun c5 => ?_) (fun c5 => ?_)
  · refine zw_some ?_
    first | exact True.intro | ((try dsimp only); first | with_reducible assumption | grind [zu_at, zu_atL, zvn] | ((repeat' apply And.intro) <;> first | with_reducible assumption | first | lia | grind [zu_at, zu_atL, zvn]))
  refine zw_if (fun c6 => ?_) (fun c6 => ?_)
  · refine zw_some ?_
    first | exact True.intro | ((try dsimp only); first | with_reducible assumption | grind [zu_at, zu_atL, zvn] | ((repeat' apply And.intro) <;> first | with_reducible assumption | first | lia | grind [zu_at, zu_atL, zvn]))
  refine zw_if (fun c7 => ?_) (fun c7 => ?_)
  · refine zw_some ?_
    first | exact True.intro | ((try dsimp only); first | with_reducible assumption | grind [zu_at, zu_atL, zvn] | ((repeat' apply And.intro) <;> first | with_reducible assumption | first | lia | grind [zu_at, zu_atL, zvn]))
  refine zw_if (fun c8 => ?_) (fun c8 => ?_)
  · refine zw_some ?_
    first | exact True.intro | ((try dsimp only); first | with_reducible assumption | grind [zu_at, zu_atL, zvn] | ((repeat' apply And.intro) <;> first | with_reducible assumption | first | lia | grind [zu_at, zu_atL, zvn]))
  refine zw_if (fun c9 => ?_) (fun c9 => ?_)
  · refine zw_some ?_
    first | exact True.intro | ((try dsimp only); first | with_reducible assumption | grind [zu_at, zu_atL, zvn] | ((repeat' apply And.intro) <;> first | with_reducible assumption | first | lia | grind [zu_at, zu_atL, zvn]))
  refine zw_if (fun c10 => ?_) (fun c10 => ?_)
  · refine zw_some ?_
    first | exact True.intro | ((try dsimp only); first | with_reducible assumption | grind [zu_at, zu_atL, zvn] | ((repeat' apply And.intro) <;> first | with_reducible assumption | first | lia | grind [zu_at, zu_atL, zvn]))
  refine zw_if (fun c11 => ?_) (fun c11 => ?_)
  · refine zw_some ?_
    first | exact True.intro | ((try dsimp only); first | with_reducible assumption | grind [zu_at, zu_atL, zvn] | ((repeat' apply And.intro) <;> first | with_reducible assumption | first | lia | grind [zu_at, zu_atL, zvn]))
  refine zw_if (fun c12 => ?_) (fun c12 => ?_)
  · refine zw_some ?_
    first | exact True.intro | ((try dsimp only); first | with_reducible assumption | grind [zu_at, zu_atL, zvn] | ((repeat' apply And.intro) <;> first | with_reducible assumption | first | lia | grind [zu_at, zu_atL, zvn]))
  refine zw_some ?_
  first | exact True.intro | ((try dsimp only); first | with_reducible assumption | grind [zu_at, zu_atL, zvn] | ((repeat' apply And.intro) <;> first | with_reducible assumption | first | lia | grind [zu_at, zu_atL, zvn]))
set_option maxHeartbeats 4000000 in
set_option maxRecDepth 100000 in
theorem sf_X5_stopAt (p1 : Int32) (p2 : Int32) : zw (fn_X5_stopAt p1 p2) (fun r => 0 ≤ r.1 ∧ r.1 ≤ 1 ∧ r.1 ≤ 0) := by
  unfold fn_X5_stopAt
  refine zw_some ?_
  first | exact True.intro | ((try dsimp only); first | with_reducible assumption | grind [zu_at, zu_atL, zvn] | ((repeat' apply And.intro) <;> first | with_reducible assumption | first | lia | grind [zu_at, zu_atL, zvn]))
set_option maxHeartbeats 4000000 in
set_option maxRecDepth 100000 in
theorem sf_X5_isFull (p1 : Int32) (v0_0 : Int32) (v1_0 : Int32) (h_v0_0 : 0 ≤ v0_0 ∧ v0_0 ≤ 4) (h_v1_0 : 0 ≤ v1_0 ∧ v1_0 ≤ 14) : zw (fn_X5_isFull p1 v0_0 v1_0) (fun r => 0 ≤ r ∧ r ≤ 1 ∧ (r = 0 → r ≤ v0_0 ∧ r ≤ v1_0) ∧ (¬ r = 0 → 1 ≤ r) ∧ (r = 1 → v0_0 ≤ r + 3) ∧ (¬ r = 1 → r ≤ 0)) := by
  unfold fn_X5_isFull
  refine zw_if (fun c1 => ?_) (fun c1 => ?_)
  · refine zw_if (fun c2 => ?_) (fun c2 => ?_)
    · refine zw_some ?_
      first | exact True.intro | ((try dsimp only); first | with_reducible assumption | grind [zu_at, zu_atL, zvn] | ((repeat' apply And.intro) <;> first | with_reducible assumption | first | lia | grind [zu_at, zu_atL, zvn]))
    refine zw_some ?_
    first | exact True.intro | ((try dsimp only); first | with_reducible assumption | grind [zu_at, zu_atL, zvn] | ((repeat' apply And.intro) <;> first | with_reducible assumption | first | lia | grind [zu_at, zu_atL, zvn]))
  refine zw_zj (fun s_2 => 0 ≤ s_2 ∧ s_2 ≤ 1) (fun s_2 Hj_2 => ?_) (fun j_2 hj_2 => ?_)
  · obtain ⟨Hj_2_0, Hj_2_1⟩ := Hj_2
    refine zw_if (fun c3 => ?_) (fun c3 => ?_)
    · refine zw_some ?_
      first | exact True.intro | ((try dsimp only); first | with_reducible assumption | grind [zu_at, zu_atL, zvn] | ((repeat' apply And.intro) <;> first | with_reducible assumption | ((try clear hj_2); first | lia | grind [zu_at, zu_atL, zvn])))
    refine zw_if (fun c4 => ?_) (fun c4 => ?_)
    · refine zw_some ?_
      first | exact True.intro | ((try dsimp only); first | with_reducible assumption | grind [zu_at, zu_atL, zvn] | ((repeat' apply And.intro) <;> first | with_reducible assumption | ((try clear hj_2); first | lia | grind [zu_at, zu_atL, zvn])))
    refine zw_some ?_
    first | exact True.intro | ((try dsimp only); first | with_reducible assumption | grind [zu_at, zu_atL, zvn] | ((repeat' apply And.intro) <;> first | with_reducible assumption | ((try clear hj_2); first | lia | grind [zu_at, zu_atL, zvn])))
  refine zw_zj (fun _ => 5 ≤ p1 ∧ p1 ≤ 6) (fun s_5 Hj_5 => ?_) (fun j_5 hj_5 => ?_)
  · obtain ⟨Hj_5_0, Hj_5_1⟩ := Hj_5
    exact hj_2 _ (by first | exact True.intro | ((try dsimp only); first | with_reducible assumption | grind [zu_at, zu_atL, zvn] | ((repeat' apply And.intro) <;> first | with_reducible assumption | ((try clear hj_2); (try clear hj_5); first | lia | grind [zu_at, zu_atL, zvn]))))
  refine zw_if (fun c5 => ?_) (fun c5 => ?_)
  · exact hj_5 _ (by first | exact True.intro | ((try dsimp only); first | with_reducible assumption | grind [zu_at, zu_atL, zvn] | ((repeat' apply And.intro) <;> first | with_reducible assumption | ((try clear hj_2); (try clear hj_5); first | lia | grind [zu_at, zu_atL, zvn]))))
  refine zw_if (fun c6 => ?_) (fun c6 => ?_)
  · exact hj_5 _ (by first | exact True.intro | ((try dsimp only); first | with_reducible assumption | grind [zu_at, zu_atL, zvn] | ((repeat' apply And.intro) <;> first | with_reducible assumption | ((try clear hj_2); (try clear hj_5); first | lia | grind [zu_at, zu_atL, zvn]))))
  exact hj_2 _ (by first | exact True.intro | ((try dsimp only); first | with_reducible assumption | grind [zu_at, zu_atL, zvn] | ((repeat' apply And.intro) <;> first | with_reducible assumption | ((try clear hj_2); (try clear hj_5); first | lia | grind [zu_at, zu_atL, zvn]))))
set_option maxHeartbeats 4000000 in
set_option maxRecDepth 100000 in
theorem sf_X10_isName (v0_4 : Int32) (v0_7 : Int32) (h_v0_4 : 0 ≤ v0_4 ∧ v0_4 ≤ 5) (h_v0_7 : (-1) ≤ v0_7 ∧ v0_7 ≤ 12) : zw (fn_X10_isName v0_4 v0_7) (fun r => 0 ≤ r ∧ r ≤ 1 ∧ r ≤ v0_4 ∧ (r = 1 → 1 ≤ v0_4 ∧ v0_4 ≤ 1 ∧ v0_7 ≤ (-1) ∧ v0_4 ≤ r) ∧ (¬ r = 1 → r ≤ 0) ∧ (r = 0 → r ≤ v0_7 + 1) ∧ (¬ r = 0 → 1 ≤ r ∧ v0_4 ≤ 1 ∧ v0_7 ≤ (-1))) := by
  unfold fn_X10_isName
  refine zw_if (fun c1 => ?_) (fun c1 => ?_)
  · refine zw_if (fun c2 => ?_) (fun c2 => ?_)
    · refine zw_some ?_
      first | exact True.intro | ((try dsimp only); first | with_reducible assumption | grind [zu_at, zu_atL, zvn] | ((repeat' apply And.intro) <;> first | with_reducible assumption | first | lia | grind [zu_at, zu_atL, zvn]))
    refine zw_some ?_
    first | exact True.intro | ((try dsimp only); first | with_reducible assumption | grind [zu_at, zu_atL, zvn] | ((repeat' apply And.intro) <;> first | with_reducible assumption | first | lia | grind [zu_at, zu_atL, zvn]))
  refine zw_some ?_
  first | exact True.intro | ((try dsimp only); first | with_reducible assumption | grind [zu_at, zu_atL, zvn] | ((repeat' apply And.intro) <;> first | with_reducible assumption | first | lia | grind [zu_at, zu_atL, zvn]))
set_option maxHeartbeats 4000000 in
set_option maxRecDepth 100000 in
theorem sf_X9_findFormat (p1 : Int32) (v0_0 : Int32) (f1 : Nat → Int32) (h_v0_0 : 0 ≤ v0_0 ∧ v0_0 ≤ 4) : zw (fn_X9_findFormat p1 v0_0 f1) (fun r => (-1) ≤ r ∧ r ≤ 3) := by
  unfold fn_X9_findFormat
  refine zw_zl32 (fun s_1 => 0 ≤ s_1 ∧ s_1 ≤ 4 ∧ s_1 ≤ v0_0) (fun s_1 => 4 - s_1) (by (try dsimp only); first | with_reducible assumption | grind [zu_at, zu_atL, zvn] | ((repeat' apply And.intro) <;> first | with_reducible assumption | first | lia | grind [zu_at, zu_atL, zvn])) (by (try dsimp only); first | lia | grind [zu_at, zu_atL, zvn]) (fun s_1 back_1 Hback_1 hback_1 => ?_)
  obtain ⟨Hback_1_0, Hback_1_1, Hback_1_2⟩ := Hback_1
  refine zw_if (fun c1 => ?_) (fun c1 => ?_)
  · refine zw_some ?_
    first | exact True.intro | ((try dsimp only); first | with_reducible assumption | grind [zu_at, zu_atL, zvn] | ((repeat' apply And.intro) <;> first | with_reducible assumption | ((try clear hback_1); first | lia | grind [zu_at, zu_atL, zvn])))
  refine zw_zg32 4 (by decide) (by (try dsimp only); ((try clear hback_1); first | lia | grind [zu_at, zu_atL, zvn])) ?_
  refine zw_if (fun c2 => ?_) (fun c2 => ?_)
  · refine zw_some ?_
    first | exact True.intro | ((try dsimp only); first | with_reducible assumption | grind [zu_at, zu_atL, zvn] | ((repeat' apply And.intro) <;> first | with_reducible assumption | ((try clear hback_1); first | lia | grind [zu_at, zu_atL, zvn])))
  exact hback_1 _ (by (try dsimp only); first | with_reducible assumption | grind [zu_at, zu_atL, zvn] | ((repeat' apply And.intro) <;> first | with_reducible assumption | ((try clear hback_1); first | lia | grind [zu_at, zu_atL, zvn]))) (by (try dsimp only); ((try clear hback_1); first | lia | grind [zu_at, zu_atL, zvn])) (by (try dsimp only); ((try clear hback_1); first | lia | grind [zu_at, zu_atL, zvn]))
set_option maxHeartbeats 4000000 in
set_option maxRecDepth 100000 in
theorem sf_X5_readNewName (v0_1 : Int32) (v0_2 : Int32) (v0_3 : Int32) (v1_2 : Int32) (v1_3 : Int32) (v1_4 : Int32) (v1_5 : Int32) (v1_6 : Int32) (v1_7 : Int32) (v2_0 : Int32) (f3 : Nat → Int32) (v4_0 : Int32) (f5 : Nat → Int32) (f6 : Nat → Int32) (f7 : Nat → Int32) (h_v1_2 : 0 ≤ v1_2 ∧ v1_2 ≤ 1200) (h_v1_3 : 0 ≤ v1_3 ∧ v1_3 ≤ 1200) (h_v1_4 : 0 ≤ v1_4 ∧ v1_4 ≤ 5) (h_v1_5 : 0 ≤ v1_5 ∧ v1_5 ≤ 1200) (h_v1_7 : (-1) ≤ v1_7 ∧ v1_7 ≤ 12) (h_v2_0 : 0 ≤ v2_0 ∧ v2_0 ≤ 4) (h_v4_0 : 0 ≤ v4_0 ∧ v4_0 ≤ 14) : zw (fn_X5_readNewName v0_1 v0_2 v0_3 v1_2 v1_3 v1_4 v1_5 v1_6 v1_7 v2_0 f3 v4_0 f5 f6 f7) (fun r => 0 ≤ r.1 ∧ r.1 ≤ 1 ∧ 0 ≤ r.2.2.2.2.1 ∧ r.2.2.2.2.1 ≤ 1200 ∧ 0 ≤ r.2.2.2.2.2.1 ∧ r.2.2.2.2.2.1 ≤ 5 ∧ 0 ≤ r.2.2.2.2.2.2.1 ∧ r.2.2.2.2.2.2.1 ≤ 1200 ∧ (-1) ≤ r.2.2.2.2.2.2.2.2 ∧ r.2.2.2.2.2.2.2.2 ≤ 12) := by
  unfold fn_X5_readNewName
  refine zw_zb0 (sf_X10_isName v1_4 v1_7 (by first | with_reducible assumption | exact ⟨by with_reducible assumption, by with_reducible assumption⟩ | first | lia | grind [zu_at, zu_atL, zvn]) (by first | with_reducible assumption | exact ⟨by with_reducible assumption, by with_reducible assumption⟩ | first | lia | grind [zu_at, zu_atL, zvn])) (fun o_1 ho_1 => ?_)
  obtain ⟨ho_1_0, ho_1_1, ho_1_2, ho_1_3, ho_1_4, ho_1_5, ho_1_6⟩ := ho_1
  refine zw_if (fun c1 => ?_) (fun c1 => ?_)
  · refine zw_zb0 (sf_X5_stopAt 1 v1_5) (fun o_28 ho_28 => ?_)
    obtain ⟨o_28_0, o_28_1, o_28_2⟩ := o_28
    try dsimp only at ho_28
    obtain ⟨ho_28_0, ho_28_1, ho_28_2⟩ := ho_28
    refine zw_some ?_
    first | exact True.intro | ((try dsimp only); first | with_reducible assumption | grind [zu_at, zu_atL, zvn] | ((repeat' apply And.intro) <;> first | with_reducible assumption | first | lia | grind [zu_at, zu_atL, zvn]))
  refine zw_zb0 (sf_X9_findFormat v1_6 v2_0 f3 (by first | with_reducible assumption | exact ⟨by with_reducible assumption, by with_reducible assumption⟩ | first | lia | grind [zu_at, zu_atL, zvn])) (fun o_6 ho_6 => ?_)
  obtain ⟨ho_6_0, ho_6_1⟩ := ho_6
  refine zw_if (fun c2 => ?_) (fun c2 => ?_)
  · refine zw_zb0 (sf_X4_find v1_6 v4_0 f5 (by first | with_reducible assumption | exact ⟨by with_reducible assumption, by with_reducible assumption⟩ | first | lia | grind [zu_at, zu_atL, zvn])) (fun o_15 ho_15 => ?_)
    obtain ⟨ho_15_0, ho_15_1⟩ := ho_15
    refine zw_if (fun c3 => ?_) (fun c3 => ?_)
    · refine zw_zb0 (sf_X10_advance v1_2 v1_3 v1_4 f6 f7 (by first | with_reducible assumption | exact ⟨by with_reducible assumption, by with_reducible assumption⟩ | first | lia | grind [zu_at, zu_atL, zvn]) (by first | with_reducible assumption | exact ⟨by with_reducible assumption, by with_reducible assumption⟩ | first | lia | grind [zu_at, zu_atL, zvn]) (by first | with_reducible assumption | exact ⟨by with_reducible assumption, by with_reducible assumption⟩ | first | lia | grind [zu_at, zu_atL, zvn])) (fun o_20 ho_20 => ?_)
      obtain ⟨o_20_0, o_20_1, o_20_2, o_20_3, o_20_4⟩ := o_20
      try dsimp only at ho_20
      obtain ⟨ho_20_0, ho_20_1, ho_20_2, ho_20_3, ho_20_4, ho_20_5, ho_20_6, ho_20_7⟩ := ho_20
      refine zw_some ?_
      first | exact True.intro | ((try dsimp only); first | with_reducible assumption | grind [zu_at, zu_atL, zvn] | ((repeat' apply And.intro) <;> first | with_reducible assumption | first | lia | grind [zu_at, zu_atL, zvn]))
    refine zw_zb0 (sf_X5_stopAt 3 v1_5) (fun o_24 ho_24 => ?_)
    obtain ⟨o_24_0, o_24_1, o_24_2⟩ := o_24
    try dsimp only at ho_24
    obtain ⟨ho_24_0, ho_24_1, ho_24_2⟩ := ho_24
    refine zw_some ?_
    first | exact True.intro | ((try dsimp only); first | with_reducible assumption | grind [zu_at, zu_atL, zvn] | ((repeat' apply And.intro) <;> first | with_reducible assumption | first | lia | grind [zu_at, zu_atL, zvn]))
  refine zw_zb0 (sf_X5_stopAt 3 v1_5) (fun o_11 ho_11 => ?_)
  obtain ⟨o_11_0, o_11_1, o_11_2⟩ := o_11
  try dsimp only at ho_11
  obtain ⟨ho_11_0, ho_11_1, ho_11_2⟩ := ho_11
  refine zw_some ?_
  first | exact True.intro | ((try dsimp only); first | with_reducible assumption | grind [zu_at, zu_atL, zvn] | ((repeat' apply And.intro) <;> first | with_reducible assumption | first | lia | grind [zu_at, zu_atL, zvn]))
set_option maxHeartbeats 4000000 in
set_option maxRecDepth 100000 in
theorem sf_X10_isOwn (p1 : Int32) (v0_4 : Int32) (v0_7 : Int32) (h_v0_4 : 0 ≤ v0_4 ∧ v0_4 ≤ 5) (h_v0_7 : (-1) ≤ v0_7 ∧ v0_7 ≤ 12) : zw (fn_X10_isOwn p1 v0_4 v0_7) (fun r => 0 ≤ r ∧ r ≤ 1 ∧ r ≤ v0_4 ∧ (r = 1 → (-1) ≤ p1 ∧ p1 ≤ 12 ∧ 1 ≤ v0_4 ∧ v0_4 ≤ 1 ∧ p1 ≤ v0_7 ∧ v0_4 ≤ r ∧ v0_7 ≤ p1) ∧ (¬ r = 1 → r ≤ 0) ∧ (r = 0 → r ≤ v0_7 + 1) ∧ (¬ r = 0 → (-1) ≤ p1 ∧ 1 ≤ r ∧ p1 ≤ 12 ∧ v0_4 ≤ 1 ∧ p1 ≤ v0_7 ∧ v0_7 ≤ p1)) := by
  unfold fn_X10_isOwn
  refine zw_if (fun c1 => ?_) (fun c1 => ?_)
  · refine zw_if (fun c2 => ?_) (fun c2 => ?_)
    · refine zw_some ?_
      first | exact True.intro | ((try dsimp only); first | with_reducible assumption | grind [zu_at, zu_atL, zvn] | ((repeat' apply And.intro) <;> first | with_reducible assumption | first | lia | grind [zu_at, zu_atL, zvn]))
    refine zw_some ?_
    first | exact True.intro | ((try dsimp only); first | with_reducible assumption | grind [zu_at, zu_atL, zvn] | ((repeat' apply And.intro) <;> first | with_reducible assumption | first | lia | grind [zu_at, zu_atL, zvn]))
  refine zw_some ?_
  first | exact True.intro | ((try dsimp only); first | with_reducible assumption | grind [zu_at, zu_atL, zvn] | ((repeat' apply And.intro) <;> first | with_reducible assumption | first | lia | grind [zu_at, zu_atL, zvn]))
set_option maxHeartbeats 4000000 in
set_option maxRecDepth 100000 in
theorem sf_X5_readOwn (p1 : Int32) (v0_2 : Int32) (v0_3 : Int32) (v1_2 : Int32) (v1_3 : Int32) (v1_4 : Int32) (v1_5 : Int32) (v1_6 : Int32) (v1_7 : Int32) (f2 : Nat → Int32) (f3 : Nat → Int32) (h_v1_2 : 0 ≤ v1_2 ∧ v1_2 ≤ 1200) (h_v1_3 : 0 ≤ v1_3 ∧ v1_3 ≤ 1200) (h_v1_4 : 0 ≤ v1_4 ∧ v1_4 ≤ 5) (h_v1_5 : 0 ≤ v1_5 ∧ v1_5 ≤ 1200) (h_v1_7 : (-1) ≤ v1_7 ∧ v1_7 ≤ 12) : zw (fn_X5_readOwn p1 v0_2 v0_3 v1_2 v1_3 v1_4 v1_5 v1_6 v1_7 f2 f3) (fun r => 0 ≤ r.1 ∧ r.1 ≤ 1 ∧ 0 ≤ r.2.2.2.1 ∧ r.2.2.2.1 ≤ 1200 ∧ 0 ≤ r.2.2.2.2.1 ∧ r.2.2.2.2.1 ≤ 5 ∧ 0 ≤ r.2.2.2.2.2.1 ∧ r.2.2.2.2.2.1 ≤ 1200 ∧ (-1) ≤ r.2.2.2.2.2.2.2 ∧ r.2.2.2.2.2.2.2 ≤ 12) := by
  unfold fn_X5_readOwn
  refine zw_zb0 (sf_X10_isOwn p1 v1_4 v1_7 (by first | with_reducible assumption | exact ⟨by with_reducible assumption, by with_reducible assumption⟩ | first | lia | grind [zu_at, zu_atL, zvn]) (by first | with_reducible assumption | exact ⟨by with_reducible assumption, by with_reducible assumption⟩ | first | lia | grind [zu_at, zu_atL, zvn])) (fun o_1 ho_1 => ?_)
  obtain ⟨ho_1_0, ho_1_1, ho_1_2, ho_1_3, ho_1_4, ho_1_5, ho_1_6⟩ := ho_1
  refine zw_if (fun c1 => ?_) (fun c1 => ?_)
  · refine zw_zb0 (sf_X5_stopAt 1 v1_5) (fun o_10 ho_10 => ?_)
    obtain ⟨o_10_0, o_10_1, o_10_2⟩ := o_10
    try dsimp only at ho_10
    obtain ⟨ho_10_0, ho_10_1, ho_10_2⟩ := ho_10
    refine zw_some ?_
    first | exact True.intro | ((try dsimp only); first | with_reducible assumption | grind [zu_at, zu_atL, zvn] | ((repeat' apply And.intro) <;> first | with_reducible assumption | first | lia | grind [zu_at, zu_atL, zvn]))
  refine zw_zb0 (sf_X10_advance v1_2 v1_3 v1_4 f2 f3 (by first | with_reducible assumption | exact ⟨by with_reducible assumption, by with_reducible assumption⟩ | first | lia | grind [zu_at, zu_atL, zvn]) (by first | with_reducible assumption | exact ⟨by with_reducible assumption, by with_reducible assumption⟩ | first | lia | grind [zu_at, zu_atL, zvn]) (by first | with_reducible assumption | exact ⟨by with_reducible assumption, by with_reducible assumption⟩ | first | lia | grind [zu_at, zu_atL, zvn])) (fun o_6 ho_6 => ?_)
  obtain ⟨o_6_0, o_6_1, o_6_2, o_6_3, o_6_4⟩ := o_6
  try dsimp only at ho_6
  obtain ⟨ho_6_0, ho_6_1, ho_6_2, ho_6_3, ho_6_4, ho_6_5, ho_6_6, ho_6_7⟩ := ho_6
  refine zw_some ?_
  first | exact True.intro | ((try dsimp only); first | with_reducible assumption | grind [zu_at, zu_atL, zvn] | ((repeat' apply And.intro) <;> first | with_reducible assumption | first | lia | grind [zu_at, zu_atL, zvn]))
set_option maxHeartbeats 4000000 in
set_option maxRecDepth 100000 in
theorem sf_X10_isSign (p1 : Int32) (v0_4 : Int32) (v0_6 : Int32) (h_v0_4 : 0 ≤ v0_4 ∧ v0_4 ≤ 5) : zw (fn_X10_isSign p1 v0_4 v0_6) (fun r => 0 ≤ r ∧ r ≤ 1 ∧ r ≤ v0_4 ∧ (r = 1 → 3 ≤ v0_4 ∧ v0_4 ≤ 3 ∧ p1 ≤ v0_6 ∧ v0_6 ≤ p1 ∧ v0_4 ≤ r + 2) ∧ (¬ r = 1 → r ≤ 0) ∧ (¬ r = 0 → 1 ≤ r ∧ 3 ≤ v0_4 ∧ v0_4 ≤ 3 ∧ p1 ≤ v0_6 ∧ v0_6 ≤ p1)) := by
  unfold fn_X10_isSign
  refine zw_if (fun c1 => ?_) (fun c1 => ?_)
  · refine zw_if (fun c2 => ?_) (fun c2 => ?_)
    · refine zw_some ?_
      first | exact True.intro | ((try dsimp only); first | with_reducible assumption | grind [zu_at, zu_atL, zvn] | ((repeat' apply And.intro) <;> first | with_reducible assumption | first | lia | grind [zu_at, zu_atL, zvn]))
    refine zw_some ?_
    first | exact True.intro | ((try dsimp only); first | with_reducible assumption | grind [zu_at, zu_atL, zvn] | ((repeat' apply And.intro) <;> first | with_reducible assumption | first | lia | grind [zu_at, zu_atL, zvn]))
  refine zw_some ?_
  first | exact True.intro | ((try dsimp only); first | with_reducible assumption | grind [zu_at, zu_atL, zvn] | ((repeat' apply And.intro) <;> first | with_reducible assumption | first | lia | grind [zu_at, zu_atL, zvn]))
set_option maxHeartbeats 4000000 in
set_option maxRecDepth 100000 in
theorem sf_X5_readValue (p1 : Int32) (p2 : Int32) (p3 : Int32) (v0_1 : Int32) (v0_2 : Int32) (v0_3 : Int32) (v1_2 : Int32) (v1_3 : Int32) (v1_4 : Int32) (v1_5 : Int32) (v1_6 : Int32) (v1_7 : Int32) (f2 : Nat → Int32) (f3 : Nat → Int32) (h_p1 : 0 ≤ p1 ∧ p1 ≤ 1) (h_v1_2 : 0 ≤ v1_2 ∧ v1_2 ≤ 1200) (h_v1_3 : 0 ≤ v1_3 ∧ v1_3 ≤ 1200) (h_v1_4 : 0 ≤ v1_4 ∧ v1_4 ≤ 5) (h_v1_5 : 0 ≤ v1_5 ∧ v1_5 ≤ 1200) (h_v1_7 : (-1) ≤ v1_7 ∧ v1_7 ≤ 12) : zw (fn_X5_readValue p1 p2 p3 v0_1 v0_2 v0_3 v1_2 v1_3 v1_4 v1_5 v1_6 v1_7 f2 f3) (fun r => 0 ≤ r.1 ∧ r.1 ≤ 1 ∧ 0 ≤ r.2.2.2.2.1 ∧ r.2.2.2.2.1 ≤ 1200 ∧ 0 ≤ r.2.2.2.2.2.1 ∧ r.2.2.2.2.2.1 ≤ 5 ∧ 0 ≤ r.2.2.2.2.2.2.1 ∧ r.2.2.2.2.2.2.1 ≤ 1200 ∧ (-1) ≤ r.2.2.2.2.2.2.2.2 ∧ r.2.2.2.2.2.2.2.2 ≤ 12) := by
  unfold fn_X5_readValue
  refine zw_zj (fun s_1 => 0 ≤ s_1 ∧ s_1 ≤ 1 ∧ s_1 ≤ p1 ∧ s_1 ≤ v1_4) (fun s_1 Hj_1 => ?_) (fun j_1 hj_1 => ?_)
  · obtain ⟨Hj_1_0, Hj_1_1, Hj_1_2, Hj_1_3⟩ := Hj_1
    refine zw_zj (fun s_2 => 0 ≤ s_2.1 ∧ s_2.1 ≤ 1200 ∧ 0 ≤ s_2.2.1 ∧ s_2.2.1 ≤ 5 ∧ 0 ≤ s_2.2.2.1 ∧ s_2.2.2.1 ≤ 1200 ∧ (-1) ≤ s_2.2.2.2.2 ∧ s_2.2.2.2.2 ≤ 12 ∧ s_2.2.1 ≤ v1_4 + 4) (fun s_2 Hj_2 => ?_) (fun j_2 hj_2 => ?_)
    · obtain ⟨s_2_0, s_2_1, s_2_2, s_2_3, s_2_4⟩ := s_2
      try dsimp only at Hj_2
      obtain ⟨Hj_2_0, Hj_2_1, Hj_2_2, Hj_2_3, Hj_2_4, Hj_2_5, Hj_2_6, Hj_2_7, Hj_2_8⟩ := Hj_2
      refine zw_if (fun c1 => ?_) (fun c1 => ?_)
      · refine zw_zj (fun s_4 => True) (fun s_4 Hj_4 => ?_) (fun j_4 hj_4 => ?_)
        · refine zw_if (fun c2 => ?_) (fun c2 => ?_)
          · refine zw_zb0 (sf_X5_stopAt 2 v1_5) (fun o_6 ho_6 => ?_)
            obtain ⟨o_6_0, o_6_1, o_6_2⟩ := o_6
            try dsimp only at ho_6
            obtain ⟨ho_6_0, ho_6_1, ho_6_2⟩ := ho_6
            refine zw_some ?_
            first | exact True.intro | ((try dsimp only); first | with_reducible assumption | grind [zu_at, zu_atL, zvn] | ((repeat' apply And.intro) <;> first | with_reducible assumption | ((try clear hj_1); (try clear hj_2); (try clear hj_4); first | lia | grind [zu_at, zu_atL, zvn])))
          refine zw_if (fun c3 => ?_) (fun c3 => ?_)
          · refine zw_zb0 (sf_X10_advance v1_2 s_2_0 s_2_1 f2 f3 (by first | with_reducible assumption | exact ⟨by with_reducible assumption, by with_reducible assumption⟩ | ((try clear hj_1); (try clear hj_2); (try clear hj_4); first | lia | grind [zu_at, zu_atL, zvn])) (by first | with_reducible assumption | exact ⟨by with_reducible assumption, by with_reducible assumption⟩ | ((try clear hj_1); (try clear hj_2); (try clear hj_4); first | lia | grind [zu_at, zu_atL, zvn])) (by first | with_reducible assumption | exact ⟨by with_reducible assumption, by with_reducible assumption⟩ | ((try clear hj_1); (try clear hj_2); (try clear hj_4); first | lia | grind [zu_at, zu_atL, zvn]))) (fun o_11 ho_11 => ?_)
            obtain ⟨o_11_0, o_11_1, o_11_2, o_11_3, o_11_4⟩ := o_11
            try dsimp only at ho_11
            obtain ⟨ho_11_0, ho_11_1, ho_11_2, ho_11_3, ho_11_4, ho_11_5, ho_11_6, ho_11_7⟩ := ho_11
            refine zw_some ?_
            first | exact True.intro | ((try dsimp only); first | with_reducible assumption | grind [zu_at, zu_atL, zvn] | ((repeat' apply And.intro) <;> first | with_reducible assumption | ((try clear hj_1); (try clear hj_2); (try clear hj_4); first | lia | grind [zu_at, zu_atL, zvn])))
          refine zw_zb0 (sf_X5_stopAt 2 v1_5) (fun o_15 ho_15 => ?_)
          obtain ⟨o_15_0, o_15_1, o_15_2⟩ := o_15
          try dsimp only at ho_15
          obtain ⟨ho_15_0, ho_15_1, ho_15_2⟩ := ho_15
          refine zw_some ?_
          first | exact True.intro | ((try dsimp only); first | with_reducible assumption | grind [zu_at, zu_atL, zvn] | ((repeat' apply And.intro) <;> first | with_reducible assumption | ((try clear hj_1); (try clear hj_2); (try clear hj_4); first | lia | grind [zu_at, zu_atL, zvn])))
        refine zw_if (fun c4 => ?_) (fun c4 => ?_)
        · exact hj_4 _ (by first | exact True.intro | ((try dsimp only); first | with_reducible assumption | grind [zu_at, zu_atL, zvn] | ((repeat' apply And.intro) <;> first | with_reducible assumption | ((try clear hj_1); (try clear hj_2); (try clear hj_4); first | lia | grind [zu_at, zu_atL, zvn]))))
        exact hj_4 _ (by first | exact True.intro | ((try dsimp only); first | with_reducible assumption | grind [zu_at, zu_atL, zvn] | ((repeat' apply And.intro) <;> first | with_reducible assumption | ((try clear hj_1); (try clear hj_2); (try clear hj_4); first | lia | grind [zu_at, zu_atL, zvn]))))
      refine zw_zb0 (sf_X5_stopAt 1 s_2_2) (fun o_20 ho_20 => ?_)
      obtain ⟨o_20_0, o_20_1, o_20_2⟩ := o_20
      try dsimp only at ho_20
      obtain ⟨ho_20_0, ho_20_1, ho_20_2⟩ := ho_20
      refine zw_some ?_
      first | exact True.intro | ((try dsimp only); first | with_reducible assumption | grind [zu_at, zu_atL, zvn] | ((repeat' apply And.intro) <;> first | with_reducible assumption | ((try clear hj_1); (try clear hj_2); (try clear hj_4); first | lia | grind [zu_at, zu_atL, zvn])))
    refine zw_if (fun c5 => ?_) (fun c5 => ?_)
    · exact hj_2 _ (by first | exact True.intro | ((try dsimp only); first | with_reducible assumption | grind [zu_at, zu_atL, zvn] | ((repeat' apply And.intro) <;> first | with_reducible assumption | ((try clear hj_1); (try clear hj_2); (try clear hj_4); first | lia | grind [zu_at, zu_atL, zvn]))))
    refine zw_zb0 (sf_X10_advance v1_2 v1_3 v1_4 f2 f3 (by first | with_reducible assumption | exact ⟨by with_reducible assumption, by with_reducible assumption⟩ | ((try clear hj_1); (try clear hj_2); (try clear hj_4); first | lia | grind [zu_at, zu_atL, zvn])) (by first | with_reducible assumption | exact ⟨by with_reducible assumption, by with_reducible assumption⟩ | ((try clear hj_1); (try clear hj_2); (try clear hj_4); first | lia | grind [zu_at, zu_atL, zvn])) (by first | with_reducible assumption | exact ⟨by with_reducible assumption, by with_reducible assumption⟩ | ((try clear hj_1); (try clear hj_2); (try clear hj_4); first | lia | grind [zu_at, zu_atL, zvn]))) (fun o_25 ho_25 => ?_)
    obtain ⟨o_25_0, o_25_1, o_25_2, o_25_3, o_25_4⟩ := o_25
    try dsimp only at ho_25
    obtain ⟨ho_25_0, ho_25_1, ho_25_2, ho_25_3, ho_25_4, ho_25_5, ho_25_6, ho_25_7⟩ := ho_25
    exact hj_2 _ (by first | exact True.intro | ((try dsimp only); first | with_reducible assumption | grind [zu_at, zu_atL, zvn] | ((repeat' apply And.intro) <;> first | with_reducible assumption | ((try clear hj_1); (try clear hj_2); (try clear hj_4); first | lia | grind [zu_at, zu_atL, zvn]))))
  refine zw_zj (fun _ => True) (fun s_29 Hj_29 => ?_) (fun j_29 hj_29 => ?_)
  · exact hj_1 _ (by first | exact True.intro | ((try dsimp only); first | with_reducible assumption | grind [zu_at, zu_atL, zvn] | ((repeat' apply And.intro) <;> first | with_reducible assumption | ((try clear hj_1); (try clear hj_2); (try clear hj_4); (try clear hj_29); first | lia | grind [zu_at, zu_atL, zvn]))))
  refine zw_if (fun c6 => ?_) (fun c6 => ?_)
  · exact hj_29 _ (by first | exact True.intro | ((try dsimp only); first | with_reducible assumption | grind [zu_at, zu_atL, zvn] | ((repeat' apply And.intro) <;> first | with_reducible assumption | ((try clear hj_1); (try clear hj_2); (try clear hj_4); (try clear hj_29); first | lia | grind [zu_at, zu_atL, zvn]))))
  refine zw_zb0 (sf_X10_isSign 45 v1_4 v1_6 (by first | with_reducible assumption | exact ⟨by with_reducible assumption, by with_reducible assumption⟩ | ((try clear hj_1); (try clear hj_2); (try clear hj_4); (try clear hj_29); first | lia | grind [zu_at, zu_atL, zvn]))) (fun o_31 ho_31 => ?_)
  obtain ⟨ho_31_0, ho_31_1, ho_31_2, ho_31_3, ho_31_4, ho_31_5⟩ := ho_31
  refine zw_if (fun c7 => ?_) (fun c7 => ?_)
  · exact hj_29 _ (by first | exact True.intro | ((try dsimp only); first | with_reducible assumption | grind [zu_at, zu_atL, zvn] | ((repeat' apply And.intro) <;> first | with_reducible assumption | ((try clear hj_1); (try clear hj_2); (try clear hj_4); (try clear hj_29); first | lia | grind [zu_at, zu_atL, zvn]))))
  exact hj_1 _ (by first | exact True.intro | ((try dsimp only); first | with_reducible assumption | grind [zu_at, zu_atL, zvn] | ((repeat' apply And.intro) <;> first | with_reducible assumption | ((try clear hj_1); (try clear hj_2); (try clear hj_4); (try clear hj_29); first | lia | grind [zu_at, zu_atL, zvn]))))
set_option maxHeartbeats 4000000 in
set_option maxRecDepth 100000 in
theorem sf_X9_addFormat (p1 : Int32) (p2 : Int32) (p3 : Int32) (p4 : Int32) (v0_0 : Int32) (f1 : Nat → Int32) (f2 : Nat → Int32) (f3 : Nat → Int32) (f4 : Nat → Int32) (h_v0_0 : 0 ≤ v0_0 ∧ v0_0 ≤ 4) : zw (fn_X9_addFormat p1 p2 p3 p4 v0_0 f1 f2 f3 f4) (fun r => 0 ≤ r.1 ∧ r.1 ≤ 4 ∧ 1 ≤ r.1) := by
  unfold fn_X9_addFormat
  refine zw_if (fun c1 => ?_) (fun c1 => ?_)
  · refine zw_some ?_
    first | exact True.intro | ((try dsimp only); first | with_reducible assumption | grind [zu_at, zu_atL, zvn] | ((repeat' apply And.intro) <;> first | with_reducible assumption | first | lia | grind [zu_at, zu_atL, zvn]))
  refine zw_zg32 4 (by decide) (by (try dsimp only); first | lia | grind [zu_at, zu_atL, zvn]) ?_
  refine zw_some ?_
  first | exact True.intro | ((try dsimp only); first | with_reducible assumption | grind [zu_at, zu_atL, zvn] | ((repeat' apply And.intro) <;> first | with_reducible assumption | first | lia | grind [zu_at, zu_atL, zvn]))
set_option maxHeartbeats 4000000 in
set_option maxRecDepth 100000 in
theorem sf_X5_readFormat (v0_1 : Int32) (v0_2 : Int32) (v0_3 : Int32) (v1_2 : Int32) (v1_3 : Int32) (v1_4 : Int32) (v1_5 : Int32) (v1_6 : Int32) (v1_7 : Int32) (v2_0 : Int32) (f3 : Nat → Int32) (v4_0 : Int32) (f5 : Nat → Int32) (f6 : Nat → Int32) (f7 : Nat → Int32) (f8 : Nat → Int32) (f9 : Nat → Int32) (f10 : Nat → Int32) (h_v1_2 : 0 ≤ v1_2 ∧ v1_2 ≤ 1200) (h_v1_3 : 0 ≤ v1_3 ∧ v1_3 ≤ 1200) (h_v1_4 : 0 ≤ v1_4 ∧ v1_4 ≤ 5) (h_v1_5 : 0 ≤ v1_5 ∧ v1_5 ≤ 1200) (h_v1_7 : (-1) ≤ v1_7 ∧ v1_7 ≤ 12) (h_v2_0 : 0 ≤ v2_0 ∧ v2_0 ≤ 4) (h_v4_0 : 0 ≤ v4_0 ∧ v4_0 ≤ 14) : zw (fn_X5_readFormat v0_1 v0_2 v0_3 v1_2 v1_3 v1_4 v1_5 v1_6 v1_7 v2_0 f3 v4_0 f5 f6 f7 f8 f9 f10) (fun r => 0 ≤ r.1 ∧ r.1 ≤ 1 ∧ 0 ≤ r.2.2.2.2.1 ∧ r.2.2.2.2.1 ≤ 1200 ∧ 0 ≤ r.2.2.2.2.2.1 ∧ r.2.2.2.2.2.1 ≤ 5 ∧ 0 ≤ r.2.2.2.2.2.2.1 ∧ r.2.2.2.2.2.2.1 ≤ 1200 ∧ (-1) ≤ r.2.2.2.2.2.2.2.2.1 ∧ r.2.2.2.2.2.2.2.2.1 ≤ 12 ∧ 0 ≤ r.2.2.2.2.2.2.2.2.2.1 ∧ r.2.2.2.2.2.2.2.2.2.1 ≤ 4) := by
  unfold fn_X5_readFormat
  refine zw_zb0 (sf_X5_readNewName v0_1 v0_2 v0_3 v1_2 v1_3 v1_4 v1_5 v1_6 v1_7 v2_0 f3 v4_0 f5 f6 f7 (by first | with_reducible assumption | exact ⟨by with_reducible assumption, by with_reducible assumption⟩ | first | lia | grind [zu_at, zu_atL, zvn]) (by first | with_reducible assumption | exact ⟨by with_reducible assumption, by with_reducible assumption⟩ | first | lia | grind [zu_at, zu_atL, zvn]) (by first | with_reducible assumption | exact ⟨by with_reducible assumption, by with_reducible assumption⟩ | first | lia | grind [zu_at, zu_atL, zvn]) (by first | with_reducible assumption | exact ⟨by with_reducible assumption, by with_reducible assumption⟩ | first | lia | grind [zu_at, zu_atL, zvn]) (by first | with_reducible assumption | exact ⟨by with_reducible assumption, by with_reducible assumption⟩ | first | lia | grind [zu_at, zu_atL, zvn]) (by first | with_reducible assumption | exact ⟨by with_reducible assumption, by with_reducible assumption⟩ | first | lia | grind [zu_at, zu_atL, zvn]) (by first | with_reducible assumption | exact ⟨by with_reducible assumption, by with_reducible assumption⟩ | first | lia | grind [zu_at, zu_atL, zvn])) (fun o_1 ho_1 => ?_)
  obtain ⟨o_1_0, o_1_1, o_1_2, o_1_3, o_1_4, o_1_5, o_1_6, o_1_7, o_1_8⟩ := o_1
  try dsimp only at ho_1
  obtain ⟨ho_1_0, ho_1_1, ho_1_2, ho_1_3, ho_1_4, ho_1_5, ho_1_6, ho_1_7, ho_1_8, ho_1_9⟩ := ho_1
  refine zw_if (fun c1 => ?_) (fun c1 => ?_)
  · refine zw_some ?_
    first | exact True.intro | ((try dsimp only); first | with_reducible assumption | grind [zu_at, zu_atL, zvn] | ((repeat' apply And.intro) <;> first | with_reducible assumption | first | lia | grind [zu_at, zu_atL, zvn]))
  refine zw_zb0 (sf_X5_readOwn 1 o_1_2 o_1_3 v1_2 o_1_4 o_1_5 o_1_6 o_1_7 o_1_8 f6 f7 (by first | with_reducible assumption | exact ⟨by with_reducible assumption, by with_reducible assumption⟩ | first | lia | grind [zu_at, zu_atL, zvn]) (by first | with_reducible assumption | exact ⟨by with_reducible assumption, by with_reducible assumption⟩ | first | lia | grind [zu_at, zu_atL, zvn]) (by first | with_reducible assumption | exact ⟨by with_reducible assumption, by with_reducible assumption⟩ | first | lia | grind [zu_at, zu_atL, zvn]) (by first | with_reducible assumption | exact ⟨by with_reducible assumption, by with_reducible assumption⟩ | first | lia | grind [zu_at, zu_atL, zvn]) (by first | with_reducible assumption | exact ⟨by with_reducible assumption, by with_reducible assumption⟩ | first | lia | grind [zu_at, zu_atL, zvn])) (fun o_6 ho_6 => ?_)
  obtain ⟨o_6_0, o_6_1, o_6_2, o_6_3, o_6_4, o_6_5, o_6_6, o_6_7⟩ := o_6
  try dsimp only at ho_6
  obtain ⟨ho_6_0, ho_6_1, ho_6_2, ho_6_3, ho_6_4, ho_6_5, ho_6_6, ho_6_7, ho_6_8, ho_6_9⟩ := ho_6
  refine zw_if (fun c2 => ?_) (fun c2 => ?_)
  · refine zw_some ?_
    first | exact True.intro | ((try dsimp only); first | with_reducible assumption | grind [zu_at, zu_atL, zvn] | ((repeat' apply And.intro) <;> first | with_reducible assumption | first | lia | grind [zu_at, zu_atL, zvn]))
  refine zw_zb0 (sf_X5_readValue 0 1 1000000 o_1_1 o_6_1 o_6_2 v1_2 o_6_3 o_6_4 o_6_5 o_6_6 o_6_7 f6 f7 (by first | with_reducible assumption | exact ⟨by with_reducible assumption, by with_reducible assumption⟩ | first | lia | grind [zu_at, zu_atL, zvn]) (by first | with_reducible assumption | exact ⟨by with_reducible assumption, by with_reducible assumption⟩ | first | lia | grind [zu_at, zu_atL, zvn]) (by first | with_reducible assumption | exact ⟨by with_reducible assumption, by with_reducible assumption⟩ | first | lia | grind [zu_at, zu_atL, zvn]) (by first | with_reducible assumption | exact ⟨by with_reducible assumption, by with_reducible assumption⟩ | first | lia | grind [zu_at, zu_atL, zvn]) (by first | with_reducible assumption | exact ⟨by with_reducible assumption, by with_reducible assumption⟩ | first | lia | grind [zu_at, zu_atL, zvn]) (by first | with_reducible assumption | exact ⟨by with_reducible assumption, by with_reducible assumption⟩ | first | lia | grind [zu_at, zu_atL, zvn])) (fun o_11 ho_11 => ?_)
  obtain ⟨o_11_0, o_11_1, o_11_2, o_11_3, o_11_4, o_11_5, o_11_6, o_11_7, o_11_8⟩ := o_11
  try dsimp only at ho_11
  obtain ⟨ho_11_0, ho_11_1, ho_11_2, ho_11_3, ho_11_4, ho_11_5, ho_11_6, ho_11_7, ho_11_8, ho_11_9⟩ := ho_11
  refine zw_if (fun c3 => ?_) (fun c3 => ?_)
  · refine zw_some ?_
    first | exact True.intro | ((try dsimp only); first | with_reducible assumption | grind [zu_at, zu_atL, zvn] | ((repeat' apply And.intro) <;> first | with_reducible assumption | first | lia | grind [zu_at, zu_atL, zvn]))
  refine zw_zb0 (sf_X5_readOwn 2 o_11_2 o_11_3 v1_2 o_11_4 o_11_5 o_11_6 o_11_7 o_11_8 f6 f7 (by first | with_reducible assumption | exact ⟨by with_reducible assumption, by with_reducible assumption⟩ | first | lia | grind [zu_at, zu_atL, zvn]) (by first | with_reducible assumption | exact ⟨by with_reducible assumption, by with_reducible assumption⟩ | first | lia | grind [zu_at, zu_atL, zvn]) (by first | with_reducible assumption | exact ⟨by with_reducible assumption, by with_reducible assumption⟩ | first | lia | grind [zu_at, zu_atL, zvn]) (by first | with_reducible assumption | exact ⟨by with_reducible assumption, by with_reducible assumption⟩ | first | lia | grind [zu_at, zu_atL, zvn]) (by first | with_reducible assumption | exact ⟨by with_reducible assumption, by with_reducible assumption⟩ | first | lia | grind [zu_at, zu_atL, zvn])) (fun o_16 ho_16 => ?_)
  obtain ⟨o_16_0, o_16_1, o_16_2, o_16_3, o_16_4, o_16_5, o_16_6, o_16_7⟩ := o_16
  try dsimp only at ho_16
  obtain ⟨ho_16_0, ho_16_1, ho_16_2, ho_16_3, ho_16_4, ho_16_5, ho_16_6, ho_16_7, ho_16_8, ho_16_9⟩ := ho_16
  refine zw_if (fun c4 => ?_) (fun c4 => ?_)
  · refine zw_some ?_
    first | exact True.intro | ((try dsimp only); first | with_reducible assumption | grind [zu_at, zu_atL, zvn] | ((repeat' apply And.intro) <;> first | with_reducible assumption | first | lia | grind [zu_at, zu_atL, zvn]))
  refine zw_zb0 (sf_X5_readValue 0 1 1000000000 o_11_1 o_16_1 o_16_2 v1_2 o_16_3 o_16_4 o_16_5 o_16_6 o_16_7 f6 f7 (by first | with_reducible assumption | exact ⟨by with_reducible assumption, by with_reducible assumption⟩ | first | lia | grind [zu_at, zu_atL, zvn]) (by first | with_reducible assumption | exact ⟨by with_reducible assumption, by with_reducible assumption⟩ | first | lia | grind [zu_at, zu_atL, zvn]) (by first | with_reducible assumption | exact ⟨by with_reducible assumption, by with_reducible assumption⟩ | first | lia | grind [zu_at, zu_atL, zvn]) (by first | with_reducible assumption | exact ⟨by with_reducible assumption, by with_reducible assumption⟩ | first | lia | grind [zu_at, zu_atL, zvn]) (by first | with_reducible assumption | exact ⟨by with_reducible assumption, by with_reducible assumption⟩ | first | lia | grind [zu_at, zu_atL, zvn]) (by first | with_reducible assumption | exact ⟨by with_reducible assumption, by with_reducible assumption⟩ | first | lia | grind [zu_at, zu_atL, zvn])) (fun o_21 ho_21 => ?_)
  obtain ⟨o_21_0, o_21_1, o_21_2, o_21_3, o_21_4, o_21_5, o_21_6, o_21_7, o_21_8⟩ := o_21
  try dsimp only at ho_21
  obtain ⟨ho_21_0, ho_21_1, ho_21_2, ho_21_3, ho_21_4, ho_21_5, ho_21_6, ho_21_7, ho_21_8, ho_21_9⟩ := ho_21
  refine zw_if (fun c5 => ?_) (fun c5 => ?_)
  · refine zw_some ?_
    first | exact True.intro | ((try dsimp only); first | with_reducible assumption | grind [zu_at, zu_atL, zvn] | ((repeat' apply And.intro) <;> first | with_reducible assumption | first | lia | grind [zu_at, zu_atL, zvn]))
  refine zw_zb0 (sf_X5_readOwn 3 o_21_2 o_21_3 v1_2 o_21_4 o_21_5 o_21_6 o_21_7 o_21_8 f6 f7 (by first | with_reducible assumption | exact ⟨by with_reducible assumption, by with_reducible assumption⟩ | first | lia | grind [zu_at, zu_atL, zvn]) (by first | with_reducible assumption | exact ⟨by with_reducible assumption, by with_reducible assumption⟩ | first | lia | grind [zu_at, zu_atL, zvn]) (by first | with_reducible assumption | exact ⟨by with_reducible assumption, by with_reducible assumption⟩ | first | lia | grind [zu_at, zu_atL, zvn]) (by first | with_reducible assumption | exact ⟨by with_reducible assumption, by with_reducible assumption⟩ | first | lia | grind [zu_at, zu_atL, zvn]) (by first | with_reducible assumption | exact ⟨by with_reducible assumption, by with_reducible assumption⟩ | first | lia | grind [zu_at, zu_atL, zvn])) (fun o_26 ho_26 => ?_)
  obtain ⟨o_26_0, o_26_1, o_26_2, o_26_3, o_26_4, o_26_5, o_26_6, o_26_7⟩ := o_26
  try dsimp only at ho_26
  obtain ⟨ho_26_0, ho_26_1, ho_26_2, ho_26_3, ho_26_4, ho_26_5, ho_26_6, ho_26_7, ho_26_8, ho_26_9⟩ := ho_26
  refine zw_if (fun c6 => ?_) (fun c6 => ?_)
  · refine zw_some ?_
    first | exact True.intro | ((try dsimp only); first | with_reducible assumption | grind [zu_at, zu_atL, zvn] | ((repeat' apply And.intro) <;> first | with_reducible assumption | first | lia | grind [zu_at, zu_atL, zvn]))
  refine zw_zb0 (sf_X5_readValue 0 0 999 o_21_1 o_26_1 o_26_2 v1_2 o_26_3 o_26_4 o_26_5 o_26_6 o_26_7 f6 f7 (by first | with_reducible assumption | exact ⟨by with_reducible assumption, by with_reducible assumption⟩ | first | lia | grind [zu_at, zu_atL, zvn]) (by first | with_reducible assumption | exact ⟨by with_reducible assumption, by with_reducible assumption⟩ | first | lia | grind [zu_at, zu_atL, zvn]) (by first | with_reducible assumption | exact ⟨by with_reducible assumption, by with_reducible assumption⟩ | first | lia | grind [zu_at, zu_atL, zvn]) (by first | with_reducible assumption | exact ⟨by with_reducible assumption, by with_reducible assumption⟩ | first | lia | grind [zu_at, zu_atL, zvn]) (by first | with_reducible assumption | exact ⟨by with_reducible assumption, by with_reducible assumption⟩ | first | lia | grind [zu_at, zu_atL, zvn]) (by first | with_reducible assumption | exact ⟨by with_reducible assumption, by with_reducible assumption⟩ | first | lia | grind [zu_at, zu_atL, zvn])) (fun o_31 ho_31 => ?_)
  obtain ⟨o_31_0, o_31_1, o_31_2, o_31_3, o_31_4, o_31_5, o_31_6, o_31_7, o_31_8⟩ := o_31
  try dsimp only at ho_31
  obtain ⟨ho_31_0, ho_31_1, ho_31_2, ho_31_3, ho_31_4, ho_31_5, ho_31_6, ho_31_7, ho_31_8, ho_31_9⟩ := ho_31
  refine zw_if (fun c7 => ?_) (fun c7 => ?_)
  · refine zw_some ?_
    first | exact True.intro | ((try dsimp only); first | with_reducible assumption | grind [zu_at, zu_atL, zvn] | ((repeat' apply And.intro) <;> first | with_reducible assumption | first | lia | grind [zu_at, zu_atL, zvn]))
  refine zw_zb0 (sf_X9_addFormat o_1_1 o_11_1 o_21_1 o_31_1 v2_0 f3 f8 f9 f10 (by first | with_reducible assumption | exact ⟨by with_reducible assumption, by with_reducible assumption⟩ | first | lia | grind [zu_at, zu_atL, zvn])) (fun o_36 ho_36 => ?_)
  obtain ⟨o_36_0, o_36_1, o_36_2, o_36_3, o_36_4⟩ := o_36
  try dsimp only at ho_36
  obtain ⟨ho_36_0, ho_36_1, ho_36_2⟩ := ho_36
  refine zw_some ?_
  first | exact True.intro | ((try dsimp only); first | with_reducible assumption | grind [zu_at, zu_atL, zvn] | ((repeat' apply And.intro) <;> first | with_reducible assumption | first | lia | grind [zu_at, zu_atL, zvn]))
set_option maxHeartbeats 4000000 in
set_option maxRecDepth 100000 in
theorem sf_X5_readKnown (p1 : Int32) (v0_1 : Int32) (v0_2 : Int32) (v0_3 : Int32) (v1_2 : Int32) (v1_3 : Int32) (v1_4 : Int32) (v1_5 : Int32) (v1_6 : Int32) (v1_7 : Int32) (f2 : Nat → Int32) (f3 : Nat → Int32) (h_v1_2 : 0 ≤ v1_2 ∧ v1_2 ≤ 1200) (h_v1_3 : 0 ≤ v1_3 ∧ v1_3 ≤ 1200) (h_v1_4 : 0 ≤ v1_4 ∧ v1_4 ≤ 5) (h_v1_5 : 0 ≤ v1_5 ∧ v1_5 ≤ 1200) (h_v1_7 : (-1) ≤ v1_7 ∧ v1_7 ≤ 12) : zw (fn_X5_readKnown p1 v0_1 v0_2 v0_3 v1_2 v1_3 v1_4 v1_5 v1_6 v1_7 f2 f3) (fun r => 0 ≤ r.1 ∧ r.1 ≤ 1 ∧ 0 ≤ r.2.2.2.2.1 ∧ r.2.2.2.2.1 ≤ 1200 ∧ 0 ≤ r.2.2.2.2.2.1 ∧ r.2.2.2.2.2.1 ≤ 5 ∧ 0 ≤ r.2.2.2.2.2.2.1 ∧ r.2.2.2.2.2.2.1 ≤ 1200 ∧ (-1) ≤ r.2.2.2.2.2.2.2.2 ∧ r.2.2.2.2.2.2.2.2 ≤ 12) := by
  unfold fn_X5_readKnown
  refine zw_zb0 (sf_X10_isName v1_4 v1_7 (by first | with_reducible assumption | exact ⟨by with_reducible assumption, by with_reducible assumption⟩ | first | lia | grind [zu_at, zu_atL, zvn]) (by first | with_reducible assumption | exact ⟨by with_reducible assumption, by with_reducible assumption⟩ | first | lia | grind [zu_at, zu_atL, zvn])) (fun o_1 ho_1 => ?_)
  obtain ⟨ho_1_0, ho_1_1, ho_1_2, ho_1_3, ho_1_4, ho_1_5, ho_1_6⟩ := ho_1
  refine zw_if (fun c1 => ?_) (fun c1 => ?_)
  · refine zw_zb0 (sf_X5_stopAt 1 v1_5) (fun o_15 ho_15 => ?_)
    obtain ⟨o_15_0, o_15_1, o_15_2⟩ := o_15
    try dsimp only at ho_15
    obtain ⟨ho_15_0, ho_15_1, ho_15_2⟩ := ho_15
    refine zw_some ?_
    first | exact True.intro | ((try dsimp only); first | with_reducible assumption | grind [zu_at, zu_atL, zvn] | ((repeat' apply And.intro) <;> first | with_reducible assumption | first | lia | grind [zu_at, zu_atL, zvn]))
  refine zw_if (fun c2 => ?_) (fun c2 => ?_)
  · refine zw_zb0 (sf_X5_stopAt 3 v1_5) (fun o_11 ho_11 => ?_)
    obtain ⟨o_11_0, o_11_1, o_11_2⟩ := o_11
    try dsimp only at ho_11
    obtain ⟨ho_11_0, ho_11_1, ho_11_2⟩ := ho_11
    refine zw_some ?_
    first | exact True.intro | ((try dsimp only); first | with_reducible assumption | grind [zu_at, zu_atL, zvn] | ((repeat' apply And.intro) <;> first | with_reducible assumption | first | lia | grind [zu_at, zu_atL, zvn]))
  refine zw_zb0 (sf_X10_advance v1_2 v1_3 v1_4 f2 f3 (by first | with_reducible assumption | exact ⟨by with_reducible assumption, by with_reducible assumption⟩ | first | lia | grind [zu_at, zu_atL, zvn]) (by first | with_reducible assumption | exact ⟨by with_reducible assumption, by with_reducible assumption⟩ | first | lia | grind [zu_at, zu_atL, zvn]) (by first | with_reducible assumption | exact ⟨by with_reducible assumption, by with_reducible assumption⟩ | first | lia | grind [zu_at, zu_atL, zvn])) (fun o_7 ho_7 => ?_)
  obtain ⟨o_7_0, o_7_1, o_7_2, o_7_3, o_7_4⟩ := o_7
  try dsimp only at ho_7
  obtain ⟨ho_7_0, ho_7_1, ho_7_2, ho_7_3, ho_7_4, ho_7_5, ho_7_6, ho_7_7⟩ := ho_7
  refine zw_some ?_
  first | exact True.intro | ((try dsimp only); first | with_reducible assumption | grind [zu_at, zu_atL, zvn] | ((repeat' apply And.intro) <;> first | with_reducible assumption | first | lia | grind [zu_at, zu_atL, zvn]))
set_option maxHeartbeats 4000000 in
set_option maxRecDepth 100000 in
theorem sf_X5_readAnswer (v0_1 : Int32) (v0_2 : Int32) (v0_3 : Int32) (v2_2 : Int32) (v2_3 : Int32) (v2_4 : Int32) (v2_5 : Int32) (v2_6 : Int32) (v2_7 : Int32) (v3_0 : Int32) (f4 : Nat → Int32) (f5 : Nat → Int32) (f6 : Nat → Int32) (f7 : Nat → Int32) (h_v2_2 : 0 ≤ v2_2 ∧ v2_2 ≤ 1200) (h_v2_3 : 0 ≤ v2_3 ∧ v2_3 ≤ 1200) (h_v2_4 : 0 ≤ v2_4 ∧ v2_4 ≤ 5) (h_v2_5 : 0 ≤ v2_5 ∧ v2_5 ≤ 1200) (h_v2_7 : (-1) ≤ v2_7 ∧ v2_7 ≤ 12) (h_v3_0 : 0 ≤ v3_0 ∧ v3_0 ≤ 14) : zw (fn_X5_readAnswer v0_1 v0_2 v0_3 v2_2 v2_3 v2_4 v2_5 v2_6 v2_7 v3_0 f4 f5 f6 f7) (fun r => 0 ≤ r.1 ∧ r.1 ≤ 1 ∧ 0 ≤ r.2.2.2.2.1 ∧ r.2.2.2.2.1 ≤ 1200 ∧ 0 ≤ r.2.2.2.2.2.1 ∧ r.2.2.2.2.2.1 ≤ 5 ∧ 0 ≤ r.2.2.2.2.2.2.1 ∧ r.2.2.2.2.2.2.1 ≤ 1200 ∧ (-1) ≤ r.2.2.2.2.2.2.2.2.1 ∧ r.2.2.2.2.2.2.2.2.1 ≤ 12) := by
  unfold fn_X5_readAnswer
  refine zw_zb0 (sf_X4_find v2_6 v3_0 f4 (by first | with_reducible assumption | exact ⟨by with_reducible assumption, by with_reducible assumption⟩ | first | lia | grind [zu_at, zu_atL, zvn])) (fun o_1 ho_1 => ?_)
  obtain ⟨ho_1_0, ho_1_1⟩ := ho_1
  refine zw_zb0 (sf_X5_readKnown o_1 v0_1 v0_2 v0_3 v2_2 v2_3 v2_4 v2_5 v2_6 v2_7 f5 f6 (by first | with_reducible assumption | exact ⟨by with_reducible assumption, by with_reducible assumption⟩ | first | lia | grind [zu_at, zu_atL, zvn]) (by first | with_reducible assumption | exact ⟨by with_reducible assumption, by with_reducible assumption⟩ | first | lia | grind [zu_at, zu_atL, zvn]) (by first | with_reducible assumption | exact ⟨by with_reducible assumption, by with_reducible assumption⟩ | first | lia | grind [zu_at, zu_atL, zvn]) (by first | with_reducible assumption | exact ⟨by with_reducible assumption, by with_reducible assumption⟩ | first | lia | grind [zu_at, zu_atL, zvn]) (by first | with_reducible assumption | exact ⟨by with_reducible assumption, by with_reducible assumption⟩ | first | lia | grind [zu_at, zu_atL, zvn])) (fun o_5 ho_5 => ?_)
  obtain ⟨o_5_0, o_5_1, o_5_2, o_5_3, o_5_4, o_5_5, o_5_6, o_5_7, o_5_8⟩ := o_5
  try dsimp only at ho_5
  obtain ⟨ho_5_0, ho_5_1, ho_5_2, ho_5_3, ho_5_4, ho_5_5, ho_5_6, ho_5_7, ho_5_8, ho_5_9⟩ := ho_5
  refine zw_if (fun c1 => ?_) (fun c1 => ?_)
  · refine zw_some ?_
    first | exact True.intro | ((try dsimp only); first | with_reducible assumption | grind [zu_at, zu_atL, zvn] | ((repeat' apply And.intro) <;> first | with_reducible assumption | first | lia | grind [zu_at, zu_atL, zvn]))
  refine zw_zb0 (sf_X5_readOwn 12 o_5_2 o_5_3 v2_2 o_5_4 o_5_5 o_5_6 o_5_7 o_5_8 f5 f6 (by first | with_reducible assumption | exact ⟨by with_reducible assumption, by with_reducible assumption⟩ | first | lia | grind [zu_at, zu_atL, zvn]) (by first | with_reducible assumption | exact ⟨by with_reducible assumption, by with_reducible assumption⟩ | first | lia | grind [zu_at, zu_atL, zvn]) (by first | with_reducible assumption | exact ⟨by with_reducible assumption, by with_reducible assumption⟩ | first | lia | grind [zu_at, zu_atL, zvn]) (by first | with_reducible assumption | exact ⟨by with_reducible assumption, by with_reducible assumption⟩ | first | lia | grind [zu_at, zu_atL, zvn]) (by first | with_reducible assumption | exact ⟨by with_reducible assumption, by with_reducible assumption⟩ | first | lia | grind [zu_at, zu_atL, zvn])) (fun o_10 ho_10 => ?_)
  obtain ⟨o_10_0, o_10_1, o_10_2, o_10_3, o_10_4, o_10_5, o_10_6, o_10_7⟩ := o_10
  try dsimp only at ho_10
  obtain ⟨ho_10_0, ho_10_1, ho_10_2, ho_10_3, ho_10_4, ho_10_5, ho_10_6, ho_10_7, ho_10_8, ho_10_9⟩ := ho_10
  refine zw_if (fun c2 => ?_) (fun c2 => ?_)
  · refine zw_some ?_
    first | exact True.intro | ((try dsimp only); first | with_reducible assumption | grind [zu_at, zu_atL, zvn] | ((repeat' apply And.intro) <;> first | with_reducible assumption | first | lia | grind [zu_at, zu_atL, zvn]))
  refine zw_zb0 (sf_X5_readValue 0 0 1000000 o_5_1 o_10_1 o_10_2 v2_2 o_10_3 o_10_4 o_10_5 o_10_6 o_10_7 f5 f6 (by first | with_reducible assumption | exact ⟨by with_reducible assumption, by with_reducible assumption⟩ | first | lia | grind [zu_at, zu_atL, zvn]) (by first | with_reducible assumption | exact ⟨by with_reducible assumption, by with_reducible assumption⟩ | first | lia | grind [zu_at, zu_atL, zvn]) (by first | with_reducible assumption | exact ⟨by with_reducible assumption, by with_reducible assumption⟩ | first | lia | grind [zu_at, zu_atL, zvn]) (by first | with_reducible assumption | exact ⟨by with_reducible assumption, by with_reducible assumption⟩ | first | lia | grind [zu_at, zu_atL, zvn]) (by first | with_reducible assumption | exact ⟨by with_reducible assumption, by with_reducible assumption⟩ | first | lia | grind [zu_at, zu_atL, zvn]) (by first | with_reducible assumption | exact ⟨by with_reducible assumption, by with_reducible assumption⟩ | first | lia | grind [zu_at, zu_atL, zvn])) (fun o_15 ho_15 => ?_)
  obtain ⟨o_15_0, o_15_1, o_15_2, o_15_3, o_15_4, o_15_5, o_15_6, o_15_7, o_15_8⟩ := o_15
  try dsimp only at ho_15
  obtain ⟨ho_15_0, ho_15_1, ho_15_2, ho_15_3, ho_15_4, ho_15_5, ho_15_6, ho_15_7, ho_15_8, ho_15_9⟩ := ho_15
  refine zw_if (fun c3 => ?_) (fun c3 => ?_)
  · refine zw_some ?_
    first | exact True.intro | ((try dsimp only); first | with_reducible assumption | grind [zu_at, zu_atL, zvn] | ((repeat' apply And.intro) <;> first | with_reducible assumption | first | lia | grind [zu_at, zu_atL, zvn]))
  refine zw_zb0 (sf_X4_allow o_5_1 o_15_1 v3_0 f7 (by first | with_reducible assumption | exact ⟨by with_reducible assumption, by with_reducible assumption⟩ | first | lia | grind [zu_at, zu_atL, zvn])) (fun o_20 ho_20 => ?_)
  refine zw_some ?_
  first | exact True.intro | ((try dsimp only); first | with_reducible assumption | grind [zu_at, zu_atL, zvn] | ((repeat' apply And.intro) <;> first | with_reducible assumption | first | lia | grind [zu_at, zu_atL, zvn]))
set_option maxHeartbeats 4000000 in
set_option maxRecDepth 100000 in
theorem sf_X5_readCast (v0_1 : Int32) (v0_2 : Int32) (v0_3 : Int32) (v1_2 : Int32) (v1_3 : Int32) (v1_4 : Int32) (v1_5 : Int32) (v1_6 : Int32) (v1_7 : Int32) (f2 : Nat → Int32) (f3 : Nat → Int32) (v4_5 : Int32) (h_v1_2 : 0 ≤ v1_2 ∧ v1_2 ≤ 1200) (h_v1_3 : 0 ≤ v1_3 ∧ v1_3 ≤ 1200) (h_v1_4 : 0 ≤ v1_4 ∧ v1_4 ≤ 5) (h_v1_5 : 0 ≤ v1_5 ∧ v1_5 ≤ 1200) (h_v1_7 : (-1) ≤ v1_7 ∧ v1_7 ≤ 12) : zw (fn_X5_readCast v0_1 v0_2 v0_3 v1_2 v1_3 v1_4 v1_5 v1_6 v1_7 f2 f3 v4_5) (fun r => 0 ≤ r.1 ∧ r.1 ≤ 1 ∧ 0 ≤ r.2.2.2.2.1 ∧ r.2.2.2.2.1 ≤ 1200 ∧ 0 ≤ r.2.2.2.2.2.1 ∧ r.2.2.2.2.2.1 ≤ 5 ∧ 0 ≤ r.2.2.2.2.2.2.1 ∧ r.2.2.2.2.2.2.1 ≤ 1200 ∧ (-1) ≤ r.2.2.2.2.2.2.2.2.1 ∧ r.2.2.2.2.2.2.2.2.1 ≤ 12) := by
  unfold fn_X5_readCast
  refine zw_zb0 (sf_X5_readValue 0 0 999 v0_1 v0_2 v0_3 v1_2 v1_3 v1_4 v1_5 v1_6 v1_7 f2 f3 (by first | with_reducible assumption | exact ⟨by with_reducible assumption, by with_reducible assumption⟩ | first | lia | grind [zu_at, zu_atL, zvn]) (by first | with_reducible assumption | exact ⟨by with_reducible assumption, by with_reducible assumption⟩ | first | lia | grind [zu_at, zu_atL, zvn]) (by first | with_reducible assumption | exact ⟨by with_reducible assumption, by with_reducible assumption⟩ | first | lia | grind [zu_at, zu_atL, zvn]) (by first | with_reducible assumption | exact ⟨by with_reducible assumption, by with_reducible assumption⟩ | first | lia | grind [zu_at, zu_atL, zvn]) (by first | with_reducible assumption | exact ⟨by with_reducible assumption, by with_reducible assumption⟩ | first | lia | grind [zu_at, zu_atL, zvn]) (by first | with_reducible assumption | exact ⟨by with_reducible assumption, by with_reducible assumption⟩ | first | lia | grind [zu_at, zu_atL, zvn])) (fun o_1 ho_1 => ?_)
  obtain ⟨o_1_0, o_1_1, o_1_2, o_1_3, o_1_4, o_1_5, o_1_6, o_1_7, o_1_8⟩ := o_1
  try dsimp only at ho_1
  obtain ⟨ho_1_0, ho_1_1, ho_1_2, ho_1_3, ho_1_4, ho_1_5, ho_1_6, ho_1_7, ho_1_8, ho_1_9⟩ := ho_1
  refine zw_if (fun c1 => ?_) (fun c1 => ?_)
  · refine zw_some ?_
    first | exact True.intro | ((try dsimp only); first | with_reducible assumption | grind [zu_at, zu_atL, zvn] | ((repeat' apply And.intro) <;> first | with_reducible assumption | first | lia | grind [zu_at, zu_atL, zvn]))
  refine zw_some ?_
  first | exact True.intro | ((try dsimp only); first | with_reducible assumption | grind [zu_at, zu_atL, zvn] | ((repeat' apply And.intro) <;> first | with_reducible assumption | first | lia | grind [zu_at, zu_atL, zvn]))
set_option maxHeartbeats 4000000 in
set_option maxRecDepth 100000 in
theorem sf_X5_readBox (v0_1 : Int32) (v0_2 : Int32) (v0_3 : Int32) (v1_2 : Int32) (v1_3 : Int32) (v1_4 : Int32) (v1_5 : Int32) (v1_6 : Int32) (v1_7 : Int32) (v2_0 : Int32) (f3 : Nat → Int32) (v4_0 : Int32) (v4_1 : Int32) (f5 : Nat → Int32) (f6 : Nat → Int32) (f7 : Nat → Int32) (f8 : Nat → Int32) (f9 : Nat → Int32) (f10 : Nat → Int32) (f11 : Nat → Int32) (f12 : Nat → Int32) (f13 : Nat → Int32) (f14 : Nat → Int32) (h_v1_2 : 0 ≤ v1_2 ∧ v1_2 ≤ 1200) (h_v1_3 : 0 ≤ v1_3 ∧ v1_3 ≤ 1200) (h_v1_4 : 0 ≤ v1_4 ∧ v1_4 ≤ 5) (h_v1_5 : 0 ≤ v1_5 ∧ v1_5 ≤ 1200) (h_v1_7 : (-1) ≤ v1_7 ∧ v1_7 ≤ 12) (h_v2_0 : 0 ≤ v2_0 ∧ v2_0 ≤ 4) (h_v4_0 : 0 ≤ v4_0 ∧ v4_0 ≤ 14) : zw (fn_X5_readBox v0_1 v0_2 v0_3 v1_2 v1_3 v1_4 v1_5 v1_6 v1_7 v2_0 f3 v4_0 v4_1 f5 f6 f7 f8 f9 f10 f11 f12 f13 f14) (fun r => 0 ≤ r.1 ∧ r.1 ≤ 1 ∧ 0 ≤ r.2.2.2.2.1 ∧ r.2.2.2.2.1 ≤ 1200 ∧ 0 ≤ r.2.2.2.2.2.1 ∧ r.2.2.2.2.2.1 ≤ 5 ∧ 0 ≤ r.2.2.2.2.2.2.1 ∧ r.2.2.2.2.2.2.1 ≤ 1200 ∧ (-1) ≤ r.2.2.2.2.2.2.2.2.1 ∧ r.2.2.2.2.2.2.2.2.1 ≤ 12 ∧ 0 ≤ r.2.2.2.2.2.2.2.2.2.1 ∧ r.2.2.2.2.2.2.2.2.2.1 ≤ 14) := by
  unfold fn_X5_readBox
  refine zw_zb0 (sf_X5_readNewName v0_1 v0_2 v0_3 v1_2 v1_3 v1_4 v1_5 v1_6 v1_7 v2_0 f3 v4_0 f5 f6 f7 (by first | with_reducible assumption | exact ⟨by with_reducible assumption, by with_reducible assumption⟩ | first | lia | grind [zu_at, zu_atL, zvn]) (by first | with_reducible assumption | exact ⟨by with_reducible assumption, by with_reducible assumption⟩ | first | lia | grind [zu_at, zu_atL, zvn]) (by first | with_reducible assumption | exact ⟨by with_reducible assumption, by with_reducible assumption⟩ | first | lia | grind [zu_at, zu_atL, zvn]) (by first | with_reducible assumption | exact ⟨by with_reducible assumption, by with_reducible assumption⟩ | first | lia | grind [zu_at, zu_atL, zvn]) (by first | with_reducible assumption | exact ⟨by with_reducible assumption, by with_reducible assumption⟩ | first | lia | grind [zu_at, zu_atL, zvn]) (by first | with_reducible assumption | exact ⟨by with_reducible assumption, by with_reducible assumption⟩ | first | lia | grind [zu_at, zu_atL, zvn]) (by first | with_reducible assumption | exact ⟨by with_reducible assumption, by with_reducible assumption⟩ | first | lia | grind [zu_at, zu_atL, zvn])) (fun o_1 ho_1 => ?_)
  obtain ⟨o_1_0, o_1_1, o_1_2, o_1_3, o_1_4, o_1_5, o_1_6, o_1_7, o_1_8⟩ := o_1
  try dsimp only at ho_1
  obtain ⟨ho_1_0, ho_1_1, ho_1_2, ho_1_3, ho_1_4, ho_1_5, ho_1_6, ho_1_7, ho_1_8, ho_1_9⟩ := ho_1
  refine zw_if (fun c1 => ?_) (fun c1 => ?_)
  · refine zw_some ?_
    first | exact True.intro | ((try dsimp only); first | with_reducible assumption | grind [zu_at, zu_atL, zvn] | ((repeat' apply And.intro) <;> first | with_reducible assumption | first | lia | grind [zu_at, zu_atL, zvn]))
  refine zw_zb0 (sf_X5_readValue 1 (-10000000) 10000000 o_1_1 o_1_2 o_1_3 v1_2 o_1_4 o_1_5 o_1_6 o_1_7 o_1_8 f6 f7 (by first | with_reducible assumption | exact ⟨by with_reducible assumption, by with_reducible assumption⟩ | first | lia | grind [zu_at, zu_atL, zvn]) (by first | with_reducible assumption | exact ⟨by with_reducible assumption, by with_reducible assumption⟩ | first | lia | grind [zu_at, zu_atL, zvn]) (by first | with_reducible assumption | exact ⟨by with_reducible assumption, by with_reducible assumption⟩ | first | lia | grind [zu_at, zu_atL, zvn]) (by first | with_reducible assumption | exact ⟨by with_reducible assumption, by with_reducible assumption⟩ | first | lia | grind [zu_at, zu_atL, zvn]) (by first | with_reducible assumption | exact ⟨by with_reducible assumption, by with_reducible assumption⟩ | first | lia | grind [zu_at, zu_atL, zvn]) (by first | with_reducible assumption | exact ⟨by with_reducible assumption, by with_reducible assumption⟩ | first | lia | grind [zu_at, zu_atL, zvn])) (fun o_6 ho_6 => ?_)
  obtain ⟨o_6_0, o_6_1, o_6_2, o_6_3, o_6_4, o_6_5, o_6_6, o_6_7, o_6_8⟩ := o_6
  try dsimp only at ho_6
  obtain ⟨ho_6_0, ho_6_1, ho_6_2, ho_6_3, ho_6_4, ho_6_5, ho_6_6, ho_6_7, ho_6_8, ho_6_9⟩ := ho_6
  refine zw_if (fun c2 => ?_) (fun c2 => ?_)
  · refine zw_some ?_
    first | exact True.intro | ((try dsimp only); first | with_reducible assumption | grind [zu_at, zu_atL, zvn] | ((repeat' apply And.intro) <;> first | with_reducible assumption | first | lia | grind [zu_at, zu_atL, zvn]))
  refine zw_zb0 (sf_X5_readValue 1 o_6_1 10000000 o_6_1 o_6_2 o_6_3 v1_2 o_6_4 o_6_5 o_6_6 o_6_7 o_6_8 f6 f7 (by first | with_reducible assumption | exact ⟨by with_reducible assumption, by with_reducible assumption⟩ | first | lia | grind [zu_at, zu_atL, zvn]) (by first | with_reducible assumption | exact ⟨by with_reducible assumption, by with_reducible assumption⟩ | first | lia | grind [zu_at, zu_atL, zvn]) (by first | with_reducible assumption | exact ⟨by with_reducible assumption, by with_reducible assumption⟩ | first | lia | grind [zu_at, zu_atL, zvn]) (by first | with_reducible assumption | exact ⟨by with_reducible assumption, by with_reducible assumption⟩ | first | lia | grind [zu_at, zu_atL, zvn]) (by first | with_reducible assumption | exact ⟨by with_reducible assumption, by with_reducible assumption⟩ | first | lia | grind [zu_at, zu_atL, zvn]) (by first | with_reducible assumption | exact ⟨by with_reducible assumption, by with_reducible assumption⟩ | first | lia | grind [zu_at, zu_atL, zvn])) (fun o_11 ho_11 => ?_)
  obtain ⟨o_11_0, o_11_1, o_11_2, o_11_3, o_11_4, o_11_5, o_11_6, o_11_7, o_11_8⟩ := o_11
  try dsimp only at ho_11
  obtain ⟨ho_11_0, ho_11_1, ho_11_2, ho_11_3, ho_11_4, ho_11_5, ho_11_6, ho_11_7, ho_11_8, ho_11_9⟩ := ho_11
  refine zw_if (fun c3 => ?_) (fun c3 => ?_)
  · refine zw_some ?_
    first | exact True.intro | ((try dsimp only); first | with_reducible assumption | grind [zu_at, zu_atL, zvn] | ((repeat' apply And.intro) <;> first | with_reducible assumption | first | lia | grind [zu_at, zu_atL, zvn]))
  refine zw_zb0 (sf_X4_prepare 0 (-1) o_6_1 v4_0 f8 f9 (by first | with_reducible assumption | exact ⟨by with_reducible assumption, by with_reducible assumption⟩ | first | lia | grind [zu_at, zu_atL, zvn])) (fun o_16 ho_16 => ?_)
  obtain ⟨o_16_0, o_16_1⟩ := o_16
  try dsimp only at ho_16
  refine zw_zb0 (sf_X4_prepare 1 (-1) o_11_1 v4_0 o_16_0 o_16_1 (by first | with_reducible assumption | exact ⟨by with_reducible assumption, by with_reducible assumption⟩ | first | lia | grind [zu_at, zu_atL, zvn])) (fun o_20 ho_20 => ?_)
  obtain ⟨o_20_0, o_20_1⟩ := o_20
  try dsimp only at ho_20
  refine zw_zb0 (sf_X4_add o_1_1 0 v4_0 v4_1 f5 f10 f11 f12 f13 o_20_0 f14 (by first | with_reducible assumption | exact ⟨by with_reducible assumption, by with_reducible assumption⟩ | first | lia | grind [zu_at, zu_atL, zvn])) (fun o_24 ho_24 => ?_)
  obtain ⟨o_24_0, o_24_1, o_24_2, o_24_3, o_24_4, o_24_5, o_24_6, o_24_7⟩ := o_24
  try dsimp only at ho_24
  obtain ⟨ho_24_0, ho_24_1, ho_24_2⟩ := ho_24
  refine zw_some ?_
  first | exact True.intro | ((try dsimp only); first | with_reducible assumption | grind [zu_at, zu_atL, zvn] | ((repeat' apply And.intro) <;> first | with_reducible assumption | first | lia | grind [zu_at, zu_atL, zvn]))
set_option maxHeartbeats 4000000 in
set_option maxRecDepth 100000 in
theorem sf_X5_readSign (p1 : Int32) (v0_2 : Int32) (v0_3 : Int32) (v1_2 : Int32) (v1_3 : Int32) (v1_4 : Int32) (v1_5 : Int32) (v1_6 : Int32) (v1_7 : Int32) (f2 : Nat → Int32) (f3 : Nat → Int32) (h_v1_2 : 0 ≤ v1_2 ∧ v1_2 ≤ 1200) (h_v1_3 : 0 ≤ v1_3 ∧ v1_3 ≤ 1200) (h_v1_4 : 0 ≤ v1_4 ∧ v1_4 ≤ 5) (h_v1_5 : 0 ≤ v1_5 ∧ v1_5 ≤ 1200) (h_v1_7 : (-1) ≤ v1_7 ∧ v1_7 ≤ 12) : zw (fn_X5_readSign p1 v0_2 v0_3 v1_2 v1_3 v1_4 v1_5 v1_6 v1_7 f2 f3) (fun r => 0 ≤ r.1 ∧ r.1 ≤ 1 ∧ 0 ≤ r.2.2.2.1 ∧ r.2.2.2.1 ≤ 1200 ∧ 0 ≤ r.2.2.2.2.1 ∧ r.2.2.2.2.1 ≤ 5 ∧ 0 ≤ r.2.2.2.2.2.1 ∧ r.2.2.2.2.2.1 ≤ 1200 ∧ (-1) ≤ r.2.2.2.2.2.2.2 ∧ r.2.2.2.2.2.2.2 ≤ 12) := by
  unfold fn_X5_readSign
  refine zw_zb0 (sf_X10_isSign p1 v1_4 v1_6 (by first | with_reducible assumption | exact ⟨by with_reducible assumption, by with_reducible assumption⟩ | first | lia | grind [zu_at, zu_atL, zvn])) (fun o_1 ho_1 => ?_)
  obtain ⟨ho_1_0, ho_1_1, ho_1_2, ho_1_3, ho_1_4, ho_1_5⟩ := ho_1
  refine zw_if (fun c1 => ?_) (fun c1 => ?_)
  · refine zw_zb0 (sf_X5_stopAt 1 v1_5) (fun o_10 ho_10 => ?_)
    obtain ⟨o_10_0, o_10_1, o_10_2⟩ := o_10
    try dsimp only at ho_10
    obtain ⟨ho_10_0, ho_10_1, ho_10_2⟩ := ho_10
    refine zw_some ?_
    first | exact True.intro | ((try dsimp only); first | with_reducible assumption | grind [zu_at, zu_atL, zvn] | ((repeat' apply And.intro) <;> first | with_reducible assumption | first | lia | grind [zu_at, zu_atL, zvn]))
  refine zw_zb0 (sf_X10_advance v1_2 v1_3 v1_4 f2 f3 (by first | with_reducible assumption | exact ⟨by with_reducible assumption, by with_reducible assumption⟩ | first | lia | grind [zu_at, zu_atL, zvn]) (by first | with_reducible assumption | exact ⟨by with_reducible assumption, by with_reducible assumption⟩ | first | lia | grind [zu_at, zu_atL, zvn]) (by first | with_reducible assumption | exact ⟨by with_reducible assumption, by with_reducible assumption⟩ | first | lia | grind [zu_at, zu_atL, zvn])) (fun o_6 ho_6 => ?_)
  obtain ⟨o_6_0, o_6_1, o_6_2, o_6_3, o_6_4⟩ := o_6
  try dsimp only at ho_6
  obtain ⟨ho_6_0, ho_6_1, ho_6_2, ho_6_3, ho_6_4, ho_6_5, ho_6_6, ho_6_7⟩ := ho_6
  refine zw_some ?_
  first | exact True.intro | ((try dsimp only); first | with_reducible assumption | grind [zu_at, zu_atL, zvn] | ((repeat' apply And.intro) <;> first | with_reducible assumption | first | lia | grind [zu_at, zu_atL, zvn]))
set_option maxHeartbeats 4000000 in
set_option maxRecDepth 100000 in
theorem sf_X5_readWhat (p2 : Int32) (v0_1 : Int32) (v0_2 : Int32) (v0_3 : Int32) (v1_2 : Int32) (v1_3 : Int32) (v1_4 : Int32) (v1_5 : Int32) (v1_6 : Int32) (v1_7 : Int32) (f2 : Nat → Int32) (f3 : Nat → Int32) (v5_0 : Int32) (f6 : Nat → Int32) (f7 : Nat → Int32) (f8 : Nat → Int32) (h_v1_2 : 0 ≤ v1_2 ∧ v1_2 ≤ 1200) (h_v1_3 : 0 ≤ v1_3 ∧ v1_3 ≤ 1200) (h_v1_4 : 0 ≤ v1_4 ∧ v1_4 ≤ 5) (h_v1_5 : 0 ≤ v1_5 ∧ v1_5 ≤ 1200) (h_v1_7 : (-1) ≤ v1_7 ∧ v1_7 ≤ 12) (h_v5_0 : 0 ≤ v5_0 ∧ v5_0 ≤ 14) : zw (fn_X5_readWhat p2 v0_1 v0_2 v0_3 v1_2 v1_3 v1_4 v1_5 v1_6 v1_7 f2 f3 v5_0 f6 f7 f8) (fun r => 0 ≤ r.1 ∧ r.1 ≤ 1 ∧ 0 ≤ r.2.2.2.2.1 ∧ r.2.2.2.2.1 ≤ 1200 ∧ 0 ≤ r.2.2.2.2.2.1 ∧ r.2.2.2.2.2.1 ≤ 5 ∧ 0 ≤ r.2.2.2.2.2.2.1 ∧ r.2.2.2.2.2.2.1 ≤ 1200 ∧ (-1) ≤ r.2.2.2.2.2.2.2.2.1 ∧ r.2.2.2.2.2.2.2.2.1 ≤ 12) := by
  unfold fn_X5_readWhat
  refine zw_if (fun c1 => ?_) (fun c1 => ?_)
  · refine zw_zb0 (sf_X4_find v1_6 v5_0 f8 (by first | with_reducible assumption | exact ⟨by with_reducible assumption, by with_reducible assumption⟩ | first | lia | grind [zu_at, zu_atL, zvn])) (fun o_15 ho_15 => ?_)
    obtain ⟨ho_15_0, ho_15_1⟩ := ho_15
    refine zw_zb0 (sf_X5_readKnown o_15 v0_1 v0_2 v0_3 v1_2 v1_3 v1_4 v1_5 v1_6 v1_7 f2 f3 (by first | with_reducible assumption | exact ⟨by with_reducible assumption, by with_reducible assumption⟩ | first | lia | grind [zu_at, zu_atL, zvn]) (by first | with_reducible assumption | exact ⟨by with_reducible assumption, by with_reducible assumption⟩ | first | lia | grind [zu_at, zu_atL, zvn]) (by first | with_reducible assumption | exact ⟨by with_reducible assumption, by with_reducible assumption⟩ | first | lia | grind [zu_at, zu_atL, zvn]) (by first | with_reducible assumption | exact ⟨by with_reducible assumption, by with_reducible assumption⟩ | first | lia | grind [zu_at, zu_atL, zvn]) (by first | with_reducible assumption | exact ⟨by with_reducible assumption, by with_reducible assumption⟩ | first | lia | grind [zu_at, zu_atL, zvn])) (fun o_19 ho_19 => ?_)
    obtain ⟨o_19_0, o_19_1, o_19_2, o_19_3, o_19_4, o_19_5, o_19_6, o_19_7, o_19_8⟩ := o_19
    try dsimp only at ho_19
    obtain ⟨ho_19_0, ho_19_1, ho_19_2, ho_19_3, ho_19_4, ho_19_5, ho_19_6, ho_19_7, ho_19_8, ho_19_9⟩ := ho_19
    refine zw_if (fun c2 => ?_) (fun c2 => ?_)
    · refine zw_zb0 (sf_X4_prepare p2 (-1) 0 v5_0 f6 f7 (by first | with_reducible assumption | exact ⟨by with_reducible assumption, by with_reducible assumption⟩ | first | lia | grind [zu_at, zu_atL, zvn])) (fun o_24 ho_24 => ?_)
      obtain ⟨o_24_0, o_24_1⟩ := o_24
      try dsimp only at ho_24
      refine zw_some ?_
      first | exact True.intro | ((try dsimp only); first | with_reducible assumption | grind [zu_at, zu_atL, zvn] | ((repeat' apply And.intro) <;> first | with_reducible assumption | first | lia | grind [zu_at, zu_atL, zvn]))
    refine zw_zb0 (sf_X4_prepare p2 o_19_1 0 v5_0 f6 f7 (by first | with_reducible assumption | exact ⟨by with_reducible assumption, by with_reducible assumption⟩ | first | lia | grind [zu_at, zu_atL, zvn])) (fun o_28 ho_28 => ?_)
    obtain ⟨o_28_0, o_28_1⟩ := o_28
    try dsimp only at ho_28
    refine zw_some ?_
    first | exact True.intro | ((try dsimp only); first | with_reducible assumption | grind [zu_at, zu_atL, zvn] | ((repeat' apply And.intro) <;> first | with_reducible assumption | first | lia | grind [zu_at, zu_atL, zvn]))
  refine zw_zb0 (sf_X5_readValue 1 (-1000000) 1000000 v0_1 v0_2 v0_3 v1_2 v1_3 v1_4 v1_5 v1_6 v1_7 f2 f3 (by first | with_reducible assumption | exact ⟨by with_reducible assumption, by with_reducible assumption⟩ | first | lia | grind [zu_at, zu_atL, zvn]) (by first | with_reducible assumption | exact ⟨by with_reducible assumption, by with_reducible assumption⟩ | first | lia | grind [zu_at, zu_atL, zvn]) (by first | with_reducible assumption | exact ⟨by with_reducible assumption, by with_reducible assumption⟩ | first | lia | grind [zu_at, zu_atL, zvn]) (by first | with_reducible assumption | exact ⟨by with_reducible assumption, by with_reducible assumption⟩ | first | lia | grind [zu_at, zu_atL, zvn]) (by first | with_reducible assumption | exact ⟨by with_reducible assumption, by with_reducible assumption⟩ | first | lia | grind [zu_at, zu_atL, zvn]) (by first | with_reducible assumption | exact ⟨by with_reducible assumption, by with_reducible assumption⟩ | first | lia | grind [zu_at, zu_atL, zvn])) (fun o_2 ho_2 => ?_)
  obtain ⟨o_2_0, o_2_1, o_2_2, o_2_3, o_2_4, o_2_5, o_2_6, o_2_7, o_2_8⟩ := o_2
  try dsimp only at ho_2
  obtain ⟨ho_2_0, ho_2_1, ho_2_2, ho_2_3, ho_2_4, ho_2_5, ho_2_6, ho_2_7, ho_2_8, ho_2_9⟩ := ho_2
  refine zw_if (fun c3 => ?_) (fun c3 => ?_)
  · refine zw_zb0 (sf_X4_prepare p2 (-1) 0 v5_0 f6 f7 (by first | with_reducible assumption | exact ⟨by with_reducible assumption, by with_reducible assumption⟩ | first | lia | grind [zu_at, zu_atL, zvn])) (fun o_7 ho_7 => ?_)
    obtain ⟨o_7_0, o_7_1⟩ := o_7
    try dsimp only at ho_7
    refine zw_some ?_
    first | exact True.intro | ((try dsimp only); first | with_reducible assumption | grind [zu_at, zu_atL, zvn] | ((repeat' apply And.intro) <;> first | with_reducible assumption | first | lia | grind [zu_at, zu_atL, zvn]))
  refine zw_zb0 (sf_X4_prepare p2 (-1) o_2_1 v5_0 f6 f7 (by first | with_reducible assumption | exact ⟨by with_reducible assumption, by with_reducible assumption⟩ | first | lia | grind [zu_at, zu_atL, zvn])) (fun o_11 ho_11 => ?_)
  obtain ⟨o_11_0, o_11_1⟩ := o_11
  try dsimp only at ho_11
  refine zw_some ?_
  first | exact True.intro | ((try dsimp only); first | with_reducible assumption | grind [zu_at, zu_atL, zvn] | ((repeat' apply And.intro) <;> first | with_reducible assumption | first | lia | grind [zu_at, zu_atL, zvn]))
set_option maxHeartbeats 4000000 in
set_option maxRecDepth 100000 in
theorem sf_X5_readOp (v0_1 : Int32) (v0_2 : Int32) (v0_3 : Int32) (v1_2 : Int32) (v1_3 : Int32) (v1_4 : Int32) (v1_5 : Int32) (v1_6 : Int32) (v1_7 : Int32) (f2 : Nat → Int32) (f3 : Nat → Int32) (h_v1_2 : 0 ≤ v1_2 ∧ v1_2 ≤ 1200) (h_v1_3 : 0 ≤ v1_3 ∧ v1_3 ≤ 1200) (h_v1_4 : 0 ≤ v1_4 ∧ v1_4 ≤ 5) (h_v1_5 : 0 ≤ v1_5 ∧ v1_5 ≤ 1200) (h_v1_7 : (-1) ≤ v1_7 ∧ v1_7 ≤ 12) : zw (fn_X5_readOp v0_1 v0_2 v0_3 v1_2 v1_3 v1_4 v1_5 v1_6 v1_7 f2 f3) (fun r => 0 ≤ r.1 ∧ r.1 ≤ 1 ∧ 0 ≤ r.2.2.2.2.1 ∧ r.2.2.2.2.1 ≤ 1200 ∧ 0 ≤ r.2.2.2.2.2.1 ∧ r.2.2.2.2.2.1 ≤ 5 ∧ 0 ≤ r.2.2.2.2.2.2.1 ∧ r.2.2.2.2.2.2.1 ≤ 1200 ∧ (-1) ≤ r.2.2.2.2.2.2.2.2 ∧ r.2.2.2.2.2.2.2.2 ≤ 12) := by
  unfold fn_X5_readOp
  refine zw_zb0 (sf_X10_isSign 43 v1_4 v1_6 (by first | with_reducible assumption | exact ⟨by with_reducible assumption, by with_reducible assumption⟩ | first | lia | grind [zu_at, zu_atL, zvn])) (fun o_1 ho_1 => ?_)
  obtain ⟨ho_1_0, ho_1_1, ho_1_2, ho_1_3, ho_1_4, ho_1_5⟩ := ho_1
  refine zw_if (fun c1 => ?_) (fun c1 => ?_)
  · refine zw_zb0 (sf_X10_isSign 45 v1_4 v1_6 (by first | with_reducible assumption | exact ⟨by with_reducible assumption, by with_reducible assumption⟩ | first | lia | grind [zu_at, zu_atL, zvn])) (fun o_6 ho_6 => ?_)
    obtain ⟨ho_6_0, ho_6_1, ho_6_2, ho_6_3, ho_6_4, ho_6_5⟩ := ho_6
    refine zw_if (fun c2 => ?_) (fun c2 => ?_)
    · refine zw_zb0 (sf_X10_isSign 42 v1_4 v1_6 (by first | with_reducible assumption | exact ⟨by with_reducible assumption, by with_reducible assumption⟩ | first | lia | grind [zu_at, zu_atL, zvn])) (fun o_11 ho_11 => ?_)
      obtain ⟨ho_11_0, ho_11_1, ho_11_2, ho_11_3, ho_11_4, ho_11_5⟩ := ho_11
      refine zw_if (fun c3 => ?_) (fun c3 => ?_)
      · refine zw_zb0 (sf_X10_isOwn 7 v1_4 v1_7 (by first | with_reducible assumption | exact ⟨by with_reducible assumption, by with_reducible assumption⟩ | first | lia | grind [zu_at, zu_atL, zvn]) (by first | with_reducible assumption | exact ⟨by with_reducible assumption, by with_reducible assumption⟩ | first | lia | grind [zu_at, zu_atL, zvn])) (fun o_16 ho_16 => ?_)
        obtain ⟨ho_16_0, ho_16_1, ho_16_2, ho_16_3, ho_16_4, ho_16_5, ho_16_6⟩ := ho_16
        refine zw_if (fun c4 => ?_) (fun c4 => ?_)
        · refine zw_zb0 (sf_X10_isOwn 8 v1_4 v1_7 (by first | with_reducible assumption | exact ⟨by with_reducible assumption, by with_reducible assumption⟩ | first | lia | grind [zu_at, zu_atL, zvn]) (by first | with_reducible assumption | exact ⟨by with_reducible assumption, by with_reducible assumption⟩ | first | lia | grind [zu_at, zu_atL, zvn])) (fun o_21 ho_21 => ?_)
          obtain ⟨ho_21_0, ho_21_1, ho_21_2, ho_21_3, ho_21_4, ho_21_5, ho_21_6⟩ := ho_21
          refine zw_if (fun c5 => ?_) (fun c5 => ?_)
          · refine zw_zb0 (sf_X5_stopAt 1 v1_5) (fun o_26 ho_26 => ?_)
            obtain ⟨o_26_0, o_26_1, o_26_2⟩ := o_26
            try dsimp only at ho_26
            obtain ⟨ho_26_0, ho_26_1, ho_26_2⟩ := ho_26
            refine zw_some ?_
            first | exact True.intro | ((try dsimp only); first | with_reducible assumption | grind [zu_at, zu_atL, zvn] | ((repeat' apply And.intro) <;> first | with_reducible assumption | first | lia | grind [zu_at, zu_atL, zvn]))
          refine zw_zb0 (sf_X10_advance v1_2 v1_3 v1_4 f2 f3 (by first | with_reducible assumption | exact ⟨by with_reducible assumption, by with_reducible assumption⟩ | first | lia | grind [zu_at, zu_atL, zvn]) (by first | with_reducible assumption | exact ⟨by with_reducible assumption, by with_reducible assumption⟩ | first | lia | grind [zu_at, zu_atL, zvn]) (by first | with_reducible assumption | exact ⟨by with_reducible assumption, by with_reducible assumption⟩ | first | lia | grind [zu_at, zu_atL, zvn])) (fun o_30 ho_30 => ?_)
          obtain ⟨o_30_0, o_30_1, o_30_2, o_30_3, o_30_4⟩ := o_30
          try dsimp only at ho_30
          obtain ⟨ho_30_0, ho_30_1, ho_30_2, ho_30_3, ho_30_4, ho_30_5, ho_30_6, ho_30_7⟩ := ho_30
          refine zw_some ?_
          first | exact True.intro | ((try dsimp only); first | with_reducible assumption | grind [zu_at, zu_atL, zvn] | ((repeat' apply And.intro) <;> first | with_reducible assumption | first | lia | grind [zu_at, zu_atL, zvn]))
        refine zw_zb0 (sf_X10_advance v1_2 v1_3 v1_4 f2 f3 (by first | with_reducible assumption | exact ⟨by with_reducible assumption, by with_reducible assumption⟩ | first | lia | grind [zu_at, zu_atL, zvn]) (by first | with_reducible assumption | exact ⟨by with_reducible assumption, by with_reducible assumption⟩ | first | lia | grind [zu_at, zu_atL, zvn]) (by first | with_reducible assumption | exact ⟨by with_reducible assumption, by with_reducible assumption⟩ | first | lia | grind [zu_at, zu_atL, zvn])) (fun o_34 ho_34 => ?_)
        obtain ⟨o_34_0, o_34_1, o_34_2, o_34_3, o_34_4⟩ := o_34
        try dsimp only at ho_34
        obtain ⟨ho_34_0, ho_34_1, ho_34_2, ho_34_3, ho_34_4, ho_34_5, ho_34_6, ho_34_7⟩ := ho_34
        refine zw_some ?_
        first | exact True.intro | ((try dsimp only); first | with_reducible assumption | grind [zu_at, zu_atL, zvn] | ((repeat' apply And.intro) <;> first | with_reducible assumption | first | lia | grind [zu_at, zu_atL, zvn]))
      refine zw_zb0 (sf_X10_advance v1_2 v1_3 v1_4 f2 f3 (by first | with_reducible assumption | exact ⟨by with_reducible assumption, by with_reducible assumption⟩ | first | lia | grind [zu_at, zu_atL, zvn]) (by first | with_reducible assumption | exact ⟨by with_reducible assumption, by with_reducible assumption⟩ | first | lia | grind [zu_at, zu_atL, zvn]) (by first | with_reducible assumption | exact ⟨by with_reducible assumption, by with_reducible assumption⟩ | first | lia | grind [zu_at, zu_atL, zvn])) (fun o_38 ho_38 => ?_)
      obtain ⟨o_38_0, o_38_1, o_38_2, o_38_3, o_38_4⟩ := o_38
      try dsimp only at ho_38
      obtain ⟨ho_38_0, ho_38_1, ho_38_2, ho_38_3, ho_38_4, ho_38_5, ho_38_6, ho_38_7⟩ := ho_38
      refine zw_some ?_
      first | exact True.intro | ((try dsimp only); first | with_reducible assumption | grind [zu_at, zu_atL, zvn] | ((repeat' apply And.intro) <;> first | with_reducible assumption | first | lia | grind [zu_at, zu_atL, zvn]))
    refine zw_zb0 (sf_X10_advance v1_2 v1_3 v1_4 f2 f3 (by first | with_reducible assumption | exact ⟨by with_reducible assumption, by with_reducible assumption⟩ | first | lia | grind [zu_at, zu_atL, zvn]) (by first | with_reducible assumption | exact ⟨by with_reducible assumption, by with_reducible assumption⟩ | first | lia | grind [zu_at, zu_atL, zvn]) (by first | with_reducible assumption | exact ⟨by with_reducible assumption, by with_reducible assumption⟩ | first | lia | grind [zu_at, zu_atL, zvn])) (fun o_42 ho_42 => ?_)
    obtain ⟨o_42_0, o_42_1, o_42_2, o_42_3, o_42_4⟩ := o_42
    try dsimp only at ho_42
    obtain ⟨ho_42_0, ho_42_1, ho_42_2, ho_42_3, ho_42_4, ho_42_5, ho_42_6, ho_42_7⟩ := ho_42
    refine zw_some ?_
    first | exact True.intro | ((try dsimp only); first | with_reducible assumption | grind [zu_at, zu_atL, zvn] | ((repeat' apply And.intro) <;> first | with_reducible assumption | first | lia | grind [zu_at, zu_atL, zvn]))
  refine zw_zb0 (sf_X10_advance v1_2 v1_3 v1_4 f2 f3 (by first | with_reducible assumption | exact ⟨by with_reducible assumption, by with_reducible assumption⟩ | first | lia | grind [zu_at, zu_atL, zvn]) (by first | with_reducible assumption | exact ⟨by with_reducible assumption, by with_reducible assumption⟩ | first | lia | grind [zu_at, zu_atL, zvn]) (by first | with_reducible assumption | exact ⟨by with_reducible assumption, by with_reducible assumption⟩ | first | lia | grind [zu_at, zu_atL, zvn])) (fun o_46 ho_46 => ?_)
  obtain ⟨o_46_0, o_46_1, o_46_2, o_46_3, o_46_4⟩ := o_46
  try dsimp only at ho_46
  obtain ⟨ho_46_0, ho_46_1, ho_46_2, ho_46_3, ho_46_4, ho_46_5, ho_46_6, ho_46_7⟩ := ho_46
  refine zw_some ?_
  first | exact True.intro | ((try dsimp only); first | with_reducible assumption | grind [zu_at, zu_atL, zvn] | ((repeat' apply And.intro) <;> first | with_reducible assumption | first | lia | grind [zu_at, zu_atL, zvn]))
set_option maxHeartbeats 4000000 in
set_option maxRecDepth 100000 in
theorem sf_X5_readLet (v0_1 : Int32) (v0_2 : Int32) (v0_3 : Int32) (v1_2 : Int32) (v1_3 : Int32) (v1_4 : Int32) (v1_5 : Int32) (v1_6 : Int32) (v1_7 : Int32) (v2_0 : Int32) (f3 : Nat → Int32) (v4_0 : Int32) (v4_1 : Int32) (f5 : Nat → Int32) (f6 : Nat → Int32) (f7 : Nat → Int32) (f8 : Nat → Int32) (f9 : Nat → Int32) (f10 : Nat → Int32) (f11 : Nat → Int32) (f12 : Nat → Int32) (f13 : Nat → Int32) (f14 : Nat → Int32) (h_v1_2 : 0 ≤ v1_2 ∧ v1_2 ≤ 1200) (h_v1_3 : 0 ≤ v1_3 ∧ v1_3 ≤ 1200) (h_v1_4 : 0 ≤ v1_4 ∧ v1_4 ≤ 5) (h_v1_5 : 0 ≤ v1_5 ∧ v1_5 ≤ 1200) (h_v1_7 : (-1) ≤ v1_7 ∧ v1_7 ≤ 12) (h_v2_0 : 0 ≤ v2_0 ∧ v2_0 ≤ 4) (h_v4_0 : 0 ≤ v4_0 ∧ v4_0 ≤ 14) : zw (fn_X5_readLet v0_1 v0_2 v0_3 v1_2 v1_3 v1_4 v1_5 v1_6 v1_7 v2_0 f3 v4_0 v4_1 f5 f6 f7 f8 f9 f10 f11 f12 f13 f14) (fun r => 0 ≤ r.1 ∧ r.1 ≤ 1 ∧ 0 ≤ r.2.2.2.2.1 ∧ r.2.2.2.2.1 ≤ 1200 ∧ 0 ≤ r.2.2.2.2.2.1 ∧ r.2.2.2.2.2.1 ≤ 5 ∧ 0 ≤ r.2.2.2.2.2.2.1 ∧ r.2.2.2.2.2.2.1 ≤ 1200 ∧ (-1) ≤ r.2.2.2.2.2.2.2.2.1 ∧ r.2.2.2.2.2.2.2.2.1 ≤ 12 ∧ 0 ≤ r.2.2.2.2.2.2.2.2.2.1 ∧ r.2.2.2.2.2.2.2.2.2.1 ≤ 14) := by
  unfold fn_X5_readLet
  refine zw_zb0 (sf_X5_readNewName v0_1 v0_2 v0_3 v1_2 v1_3 v1_4 v1_5 v1_6 v1_7 v2_0 f3 v4_0 f5 f6 f7 (by first | with_reducible assumption | exact ⟨by with_reducible assumption, by with_reducible assumption⟩ | first | lia | grind [zu_at, zu_atL, zvn]) (by first | with_reducible assumption | exact ⟨by with_reducible assumption, by with_reducible assumption⟩ | first | lia | grind [zu_at, zu_atL, zvn]) (by first | with_reducible assumption | exact ⟨by with_reducible assumption, by with_reducible assumption⟩ | first | lia | grind [zu_at, zu_atL, zvn]) (by first | with_reducible assumption | exact ⟨by with_reducible assumption, by with_reducible assumption⟩ | first | lia | grind [zu_at, zu_atL, zvn]) (by first | with_reducible assumption | exact ⟨by with_reducible assumption, by with_reducible assumption⟩ | first | lia | grind [zu_at, zu_atL, zvn]) (by first | with_reducible assumption | exact ⟨by with_reducible assumption, by with_reducible assumption⟩ | first | lia | grind [zu_at, zu_atL, zvn]) (by first | with_reducible assumption | exact ⟨by with_reducible assumption, by with_reducible assumption⟩ | first | lia | grind [zu_at, zu_atL, zvn])) (fun o_1 ho_1 => ?_)
  obtain ⟨o_1_0, o_1_1, o_1_2, o_1_3, o_1_4, o_1_5, o_1_6, o_1_7, o_1_8⟩ := o_1
  try dsimp only at ho_1
  obtain ⟨ho_1_0, ho_1_1, ho_1_2, ho_1_3, ho_1_4, ho_1_5, ho_1_6, ho_1_7, ho_1_8, ho_1_9⟩ := ho_1
  refine zw_if (fun c1 => ?_) (fun c1 => ?_)
  · refine zw_some ?_
    first | exact True.intro | ((try dsimp only); first | with_reducible assumption | grind [zu_at, zu_atL, zvn] | ((repeat' apply And.intro) <;> first | with_reducible assumption | first | lia | grind [zu_at, zu_atL, zvn]))
  refine zw_zb0 (sf_X5_readSign 61 o_1_2 o_1_3 v1_2 o_1_4 o_1_5 o_1_6 o_1_7 o_1_8 f6 f7 (by first | with_reducible assumption | exact ⟨by with_reducible assumption, by with_reducible assumption⟩ | first | lia | grind [zu_at, zu_atL, zvn]) (by first | with_reducible assumption | exact ⟨by with_reducible assumption, by with_reducible assumption⟩ | first | lia | grind [zu_at, zu_atL, zvn]) (by first | with_reducible assumption | exact ⟨by with_reducible assumption, by with_reducible assumption⟩ | first | lia | grind [zu_at, zu_atL, zvn]) (by first | with_reducible assumption | exact ⟨by with_reducible assumption, by with_reducible assumption⟩ | first | lia | grind [zu_at, zu_atL, zvn]) (by first | with_reducible assumption | exact ⟨by with_reducible assumption, by with_reducible assumption⟩ | first | lia | grind [zu_at, zu_atL, zvn])) (fun o_6 ho_6 => ?_)
  obtain ⟨o_6_0, o_6_1, o_6_2, o_6_3, o_6_4, o_6_5, o_6_6, o_6_7⟩ := o_6
  try dsimp only at ho_6
  obtain ⟨ho_6_0, ho_6_1, ho_6_2, ho_6_3, ho_6_4, ho_6_5, ho_6_6, ho_6_7, ho_6_8, ho_6_9⟩ := ho_6
  refine zw_if (fun c2 => ?_) (fun c2 => ?_)
  · refine zw_some ?_
    first | exact True.intro | ((try dsimp only); first | with_reducible assumption | grind [zu_at, zu_atL, zvn] | ((repeat' apply And.intro) <;> first | with_reducible assumption | first | lia | grind [zu_at, zu_atL, zvn]))
  refine zw_zb0 (sf_X5_readWhat 0 o_1_1 o_6_1 o_6_2 v1_2 o_6_3 o_6_4 o_6_5 o_6_6 o_6_7 f6 f7 v4_0 f8 f9 f5 (by first | with_reducible assumption | exact ⟨by with_reducible assumption, by with_reducible assumption⟩ | first | lia | grind [zu_at, zu_atL, zvn]) (by first | with_reducible assumption | exact ⟨by with_reducible assumption, by with_reducible assumption⟩ | first | lia | grind [zu_at, zu_atL, zvn]) (by first | with_reducible assumption | exact ⟨by with_reducible assumption, by with_reducible assumption⟩ | first | lia | grind [zu_at, zu_atL, zvn]) (by first | with_reducible assumption | exact ⟨by with_reducible assumption, by with_reducible assumption⟩ | first | lia | grind [zu_at, zu_atL, zvn]) (by first | with_reducible assumption | exact ⟨by with_reducible assumption, by with_reducible assumption⟩ | first | lia | grind [zu_at, zu_atL, zvn]) (by first | with_reducible assumption | exact ⟨by with_reducible assumption, by with_reducible assumption⟩ | first | lia | grind [zu_at, zu_atL, zvn])) (fun o_11 ho_11 => ?_)
  obtain ⟨o_11_0, o_11_1, o_11_2, o_11_3, o_11_4, o_11_5, o_11_6, o_11_7, o_11_8, o_11_9, o_11_10⟩ := o_11
  try dsimp only at ho_11
  obtain ⟨ho_11_0, ho_11_1, ho_11_2, ho_11_3, ho_11_4, ho_11_5, ho_11_6, ho_11_7, ho_11_8, ho_11_9⟩ := ho_11
  refine zw_if (fun c3 => ?_) (fun c3 => ?_)
  · refine zw_some ?_
    first | exact True.intro | ((try dsimp only); first | with_reducible assumption | grind [zu_at, zu_atL, zvn] | ((repeat' apply And.intro) <;> first | with_reducible assumption | first | lia | grind [zu_at, zu_atL, zvn]))
  refine zw_zb0 (sf_X5_readOp o_11_1 o_11_2 o_11_3 v1_2 o_11_4 o_11_5 o_11_6 o_11_7 o_11_8 f6 f7 (by first | with_reducible assumption | exact ⟨by with_reducible assumption, by with_reducible assumption⟩ | first | lia | grind [zu_at, zu_atL, zvn]) (by first | with_reducible assumption | exact ⟨by with_reducible assumption, by with_reducible assumption⟩ | first | lia | grind [zu_at, zu_atL, zvn]) (by first | with_reducible assumption | exact ⟨by with_reducible assumption, by with_reducible assumption⟩ | first | lia | grind [zu_at, zu_atL, zvn]) (by first | with_reducible assumption | exact ⟨by with_reducible assumption, by with_reducible assumption⟩ | first | lia | grind [zu_at, zu_atL, zvn]) (by first | with_reducible assumption | exact ⟨by with_reducible assumption, by with_reducible assumption⟩ | first | lia | grind [zu_at, zu_atL, zvn])) (fun o_16 ho_16 => ?_)
  obtain ⟨o_16_0, o_16_1, o_16_2, o_16_3, o_16_4, o_16_5, o_16_6, o_16_7, o_16_8⟩ := o_16
  try dsimp only at ho_16
  obtain ⟨ho_16_0, ho_16_1, ho_16_2, ho_16_3, ho_16_4, ho_16_5, ho_16_6, ho_16_7, ho_16_8, ho_16_9⟩ := ho_16
  refine zw_if (fun c4 => ?_) (fun c4 => ?_)
  · refine zw_some ?_
    first | exact True.intro | ((try dsimp only); first | with_reducible assumption | grind [zu_at, zu_atL, zvn] | ((repeat' apply And.intro) <;> first | with_reducible assumption | first | lia | grind [zu_at, zu_atL, zvn]))
  refine zw_zb0 (sf_X5_readWhat 1 o_16_1 o_16_2 o_16_3 v1_2 o_16_4 o_16_5 o_16_6 o_16_7 o_16_8 f6 f7 v4_0 o_11_9 o_11_10 f5 (by first | with_reducible assumption | exact ⟨by with_reducible assumption, by with_reducible assumption⟩ | first | lia | grind [zu_at, zu_atL, zvn]) (by first | with_reducible assumption | exact ⟨by with_reducible assumption, by with_reducible assumption⟩ | first | lia | grind [zu_at, zu_atL, zvn]) (by first | with_reducible assumption | exact ⟨by with_reducible assumption, by with_reducible assumption⟩ | first | lia | grind [zu_at, zu_atL, zvn]) (by first | with_reducible assumption | exact ⟨by with_reducible assumption, by with_reducible assumption⟩ | first | lia | grind [zu_at, zu_atL, zvn]) (by first | with_reducible assumption | exact ⟨by with_reducible assumption, by with_reducible assumption⟩ | first | lia | grind [zu_at, zu_atL, zvn]) (by first | with_reducible assumption | exact ⟨by with_reducible assumption, by with_reducible assumption⟩ | first | lia | grind [zu_at, zu_atL, zvn])) (fun o_21 ho_21 => ?_)
  obtain ⟨o_21_0, o_21_1, o_21_2, o_21_3, o_21_4, o_21_5, o_21_6, o_21_7, o_21_8, o_21_9, o_21_10⟩ := o_21
  try dsimp only at ho_21
  obtain ⟨ho_21_0, ho_21_1, ho_21_2, ho_21_3, ho_21_4, ho_21_5, ho_21_6, ho_21_7, ho_21_8, ho_21_9⟩ := ho_21
  refine zw_if (fun c5 => ?_) (fun c5 => ?_)
  · refine zw_some ?_
    first | exact True.intro | ((try dsimp only); first | with_reducible assumption | grind [zu_at, zu_atL, zvn] | ((repeat' apply And.intro) <;> first | with_reducible assumption | first | lia | grind [zu_at, zu_atL, zvn]))
  refine zw_zb0 (sf_X4_add o_1_1 o_16_1 v4_0 v4_1 f5 f10 f11 f12 f13 o_21_9 f14 (by first | with_reducible assumption | exact ⟨by with_reducible assumption, by with_reducible assumption⟩ | first | lia | grind [zu_at, zu_atL, zvn])) (fun o_26 ho_26 => ?_)
  obtain ⟨o_26_0, o_26_1, o_26_2, o_26_3, o_26_4, o_26_5, o_26_6, o_26_7⟩ := o_26
  try dsimp only at ho_26
  obtain ⟨ho_26_0, ho_26_1, ho_26_2⟩ := ho_26
  refine zw_some ?_
  first | exact True.intro | ((try dsimp only); first | with_reducible assumption | grind [zu_at, zu_atL, zvn] | ((repeat' apply And.intro) <;> first | with_reducible assumption | first | lia | grind [zu_at, zu_atL, zvn]))
set_option maxHeartbeats 4000000 in
set_option maxRecDepth 100000 in
theorem sf_X5_readFixed (v0_1 : Int32) (v0_2 : Int32) (v0_3 : Int32) (v1_0 : Int32) (v2_2 : Int32) (v2_3 : Int32) (v2_4 : Int32) (v2_5 : Int32) (v2_6 : Int32) (v2_7 : Int32) (v3_0 : Int32) (f4 : Nat → Int32) (f5 : Nat → Int32) (f6 : Nat → Int32) (f7 : Nat → Int32) (f8 : Nat → Int32) (h_v1_0 : 0 ≤ v1_0 ∧ v1_0 ≤ 4) (h_v2_2 : 0 ≤ v2_2 ∧ v2_2 ≤ 1200) (h_v2_3 : 0 ≤ v2_3 ∧ v2_3 ≤ 1200) (h_v2_4 : 0 ≤ v2_4 ∧ v2_4 ≤ 5) (h_v2_5 : 0 ≤ v2_5 ∧ v2_5 ≤ 1200) (h_v2_7 : (-1) ≤ v2_7 ∧ v2_7 ≤ 12) (h_v3_0 : 0 ≤ v3_0 ∧ v3_0 ≤ 14) : zw (fn_X5_readFixed v0_1 v0_2 v0_3 v1_0 v2_2 v2_3 v2_4 v2_5 v2_6 v2_7 v3_0 f4 f5 f6 f7 f8) (fun r => 0 ≤ r.1 ∧ r.1 ≤ 1 ∧ 0 ≤ r.2.2.2.2.1 ∧ r.2.2.2.2.1 ≤ 1200 ∧ 0 ≤ r.2.2.2.2.2.1 ∧ r.2.2.2.2.2.1 ≤ 5 ∧ 0 ≤ r.2.2.2.2.2.2.1 ∧ r.2.2.2.2.2.2.1 ≤ 1200 ∧ (-1) ≤ r.2.2.2.2.2.2.2.2.1 ∧ r.2.2.2.2.2.2.2.2.1 ≤ 12) := by
  unfold fn_X5_readFixed
  refine zw_zb0 (sf_X4_find v2_6 v3_0 f4 (by first | with_reducible assumption | exact ⟨by with_reducible assumption, by with_reducible assumption⟩ | first | lia | grind [zu_at, zu_atL, zvn])) (fun o_1 ho_1 => ?_)
  obtain ⟨ho_1_0, ho_1_1⟩ := ho_1
  refine zw_zb0 (sf_X5_readKnown o_1 v0_1 v0_2 v0_3 v2_2 v2_3 v2_4 v2_5 v2_6 v2_7 f5 f6 (by first | with_reducible assumption | exact ⟨by with_reducible assumption, by with_reducible assumption⟩ | first | lia | grind [zu_at, zu_atL, zvn]) (by first | with_reducible assumption | exact ⟨by with_reducible assumption, by with_reducible assumption⟩ | first | lia | grind [zu_at, zu_atL, zvn]) (by first | with_reducible assumption | exact ⟨by with_reducible assumption, by with_reducible assumption⟩ | first | lia | grind [zu_at, zu_atL, zvn]) (by first | with_reducible assumption | exact ⟨by with_reducible assumption, by with_reducible assumption⟩ | first | lia | grind [zu_at, zu_atL, zvn]) (by first | with_reducible assumption | exact ⟨by with_reducible assumption, by with_reducible assumption⟩ | first | lia | grind [zu_at, zu_atL, zvn])) (fun o_5 ho_5 => ?_)
  obtain ⟨o_5_0, o_5_1, o_5_2, o_5_3, o_5_4, o_5_5, o_5_6, o_5_7, o_5_8⟩ := o_5
  try dsimp only at ho_5
  obtain ⟨ho_5_0, ho_5_1, ho_5_2, ho_5_3, ho_5_4, ho_5_5, ho_5_6, ho_5_7, ho_5_8, ho_5_9⟩ := ho_5
  refine zw_if (fun c1 => ?_) (fun c1 => ?_)
  · refine zw_some ?_
    first | exact True.intro | ((try dsimp only); first | with_reducible assumption | grind [zu_at, zu_atL, zvn] | ((repeat' apply And.intro) <;> first | with_reducible assumption | first | lia | grind [zu_at, zu_atL, zvn]))
  refine zw_zb0 (sf_X9_findFormat o_5_7 v1_0 f7 (by first | with_reducible assumption | exact ⟨by with_reducible assumption, by with_reducible assumption⟩ | first | lia | grind [zu_at, zu_atL, zvn])) (fun o_10 ho_10 => ?_)
  obtain ⟨ho_10_0, ho_10_1⟩ := ho_10
  refine zw_zb0 (sf_X5_readKnown o_10 o_5_1 o_5_2 o_5_3 v2_2 o_5_4 o_5_5 o_5_6 o_5_7 o_5_8 f5 f6 (by first | with_reducible assumption | exact ⟨by with_reducible assumption, by with_reducible assumption⟩ | first | lia | grind [zu_at, zu_atL, zvn]) (by first | with_reducible assumption | exact ⟨by with_reducible assumption, by with_reducible assumption⟩ | first | lia | grind [zu_at, zu_atL, zvn]) (by first | with_reducible assumption | exact ⟨by with_reducible assumption, by with_reducible assumption⟩ | first | lia | grind [zu_at, zu_atL, zvn]) (by first | with_reducible assumption | exact ⟨by with_reducible assumption, by with_reducible assumption⟩ | first | lia | grind [zu_at, zu_atL, zvn]) (by first | with_reducible assumption | exact ⟨by with_reducible assumption, by with_reducible assumption⟩ | first | lia | grind [zu_at, zu_atL, zvn])) (fun o_14 ho_14 => ?_)
  obtain ⟨o_14_0, o_14_1, o_14_2, o_14_3, o_14_4, o_14_5, o_14_6, o_14_7, o_14_8⟩ := o_14
  try dsimp only at ho_14
  obtain ⟨ho_14_0, ho_14_1, ho_14_2, ho_14_3, ho_14_4, ho_14_5, ho_14_6, ho_14_7, ho_14_8, ho_14_9⟩ := ho_14
  refine zw_if (fun c2 => ?_) (fun c2 => ?_)
  · refine zw_some ?_
    first | exact True.intro | ((try dsimp only); first | with_reducible assumption | grind [zu_at, zu_atL, zvn] | ((repeat' apply And.intro) <;> first | with_reducible assumption | first | lia | grind [zu_at, zu_atL, zvn]))
  refine zw_zb0 (sf_X4_fix o_5_1 o_14_1 v3_0 f8 (by first | with_reducible assumption | exact ⟨by with_reducible assumption, by with_reducible assumption⟩ | first | lia | grind [zu_at, zu_atL, zvn])) (fun o_19 ho_19 => ?_)
  refine zw_some ?_
  first | exact True.intro | ((try dsimp only); first | with_reducible assumption | grind [zu_at, zu_atL, zvn] | ((repeat' apply And.intro) <;> first | with_reducible assumption | first | lia | grind [zu_at, zu_atL, zvn]))
set_option maxHeartbeats 4000000 in
set_option maxRecDepth 100000 in
theorem sf_X5_readGroup (v0_1 : Int32) (v0_2 : Int32) (v0_3 : Int32) (v2_2 : Int32) (v2_3 : Int32) (v2_4 : Int32) (v2_5 : Int32) (v2_6 : Int32) (v2_7 : Int32) (v3_0 : Int32) (f4 : Nat → Int32) (f5 : Nat → Int32) (f6 : Nat → Int32) (f7 : Nat → Int32) (h_v2_2 : 0 ≤ v2_2 ∧ v2_2 ≤ 1200) (h_v2_3 : 0 ≤ v2_3 ∧ v2_3 ≤ 1200) (h_v2_4 : 0 ≤ v2_4 ∧ v2_4 ≤ 5) (h_v2_5 : 0 ≤ v2_5 ∧ v2_5 ≤ 1200) (h_v2_7 : (-1) ≤ v2_7 ∧ v2_7 ≤ 12) (h_v3_0 : 0 ≤ v3_0 ∧ v3_0 ≤ 14) : zw (fn_X5_readGroup v0_1 v0_2 v0_3 v2_2 v2_3 v2_4 v2_5 v2_6 v2_7 v3_0 f4 f5 f6 f7) (fun r => 0 ≤ r.1 ∧ r.1 ≤ 1 ∧ 0 ≤ r.2.2.2.2.1 ∧ r.2.2.2.2.1 ≤ 1200 ∧ 0 ≤ r.2.2.2.2.2.1 ∧ r.2.2.2.2.2.1 ≤ 5 ∧ 0 ≤ r.2.2.2.2.2.2.1 ∧ r.2.2.2.2.2.2.1 ≤ 1200 ∧ (-1) ≤ r.2.2.2.2.2.2.2.2.1 ∧ r.2.2.2.2.2.2.2.2.1 ≤ 12) := by
  unfold fn_X5_readGroup
  refine zw_zb0 (sf_X4_find v2_6 v3_0 f4 (by first | with_reducible assumption | exact ⟨by with_reducible assumption, by with_reducible assumption⟩ | first | lia | grind [zu_at, zu_atL, zvn])) (fun o_1 ho_1 => ?_)
  obtain ⟨ho_1_0, ho_1_1⟩ := ho_1
  refine zw_zb0 (sf_X5_readKnown o_1 v0_1 v0_2 v0_3 v2_2 v2_3 v2_4 v2_5 v2_6 v2_7 f5 f6 (by first | with_reducible assumption | exact ⟨by with_reducible assumption, by with_reducible assumption⟩ | first | lia | grind [zu_at, zu_atL, zvn]) (by first | with_reducible assumption | exact ⟨by with_reducible assumption, by with_reducible assumption⟩ | first | lia | grind [zu_at, zu_atL, zvn]) (by first | with_reducible assumption | exact ⟨by with_reducible assumption, by with_reducible assumption⟩ | first | lia | grind [zu_at, zu_atL, zvn]) (by first | with_reducible assumption | exact ⟨by with_reducible assumption, by with_reducible assumption⟩ | first | lia | grind [zu_at, zu_atL, zvn]) (by first | with_reducible assumption | exact ⟨by with_reducible assumption, by with_reducible assumption⟩ | first | lia | grind [zu_at, zu_atL, zvn])) (fun o_5 ho_5 => ?_)
  obtain ⟨o_5_0, o_5_1, o_5_2, o_5_3, o_5_4, o_5_5, o_5_6, o_5_7, o_5_8⟩ := o_5
  try dsimp only at ho_5
  obtain ⟨ho_5_0, ho_5_1, ho_5_2, ho_5_3, ho_5_4, ho_5_5, ho_5_6, ho_5_7, ho_5_8, ho_5_9⟩ := ho_5
  refine zw_if (fun c1 => ?_) (fun c1 => ?_)
  · refine zw_some ?_
    first | exact True.intro | ((try dsimp only); first | with_reducible assumption | grind [zu_at, zu_atL, zvn] | ((repeat' apply And.intro) <;> first | with_reducible assumption | first | lia | grind [zu_at, zu_atL, zvn]))
  refine zw_zb0 (sf_X4_find o_5_7 v3_0 f4 (by first | with_reducible assumption | exact ⟨by with_reducible assumption, by with_reducible assumption⟩ | first | lia | grind [zu_at, zu_atL, zvn])) (fun o_10 ho_10 => ?_)
  obtain ⟨ho_10_0, ho_10_1⟩ := ho_10
  refine zw_zb0 (sf_X5_readKnown o_10 o_5_1 o_5_2 o_5_3 v2_2 o_5_4 o_5_5 o_5_6 o_5_7 o_5_8 f5 f6 (by first | with_reducible assumption | exact ⟨by with_reducible assumption, by with_reducible assumption⟩ | first | lia | grind [zu_at, zu_atL, zvn]) (by first | with_reducible assumption | exact ⟨by with_reducible assumption, by with_reducible assumption⟩ | first | lia | grind [zu_at, zu_atL, zvn]) (by first | with_reducible assumption | exact ⟨by with_reducible assumption, by with_reducible assumption⟩ | first | lia | grind [zu_at, zu_atL, zvn]) (by first | with_reducible assumption | exact ⟨by with_reducible assumption, by with_reducible assumption⟩ | first | lia | grind [zu_at, zu_atL, zvn]) (by first | with_reducible assumption | exact ⟨by with_reducible assumption, by with_reducible assumption⟩ | first | lia | grind [zu_at, zu_atL, zvn])) (fun o_14 ho_14 => ?_)
  obtain ⟨o_14_0, o_14_1, o_14_2, o_14_3, o_14_4, o_14_5, o_14_6, o_14_7, o_14_8⟩ := o_14
  try dsimp only at ho_14
  obtain ⟨ho_14_0, ho_14_1, ho_14_2, ho_14_3, ho_14_4, ho_14_5, ho_14_6, ho_14_7, ho_14_8, ho_14_9⟩ := ho_14
  refine zw_if (fun c2 => ?_) (fun c2 => ?_)
  · refine zw_some ?_
    first | exact True.intro | ((try dsimp only); first | with_reducible assumption | grind [zu_at, zu_atL, zvn] | ((repeat' apply And.intro) <;> first | with_reducible assumption | first | lia | grind [zu_at, zu_atL, zvn]))
  refine zw_if (fun c3 => ?_) (fun c3 => ?_)
  · refine zw_zb0 (sf_X5_stopAt 3 o_5_6) (fun o_24 ho_24 => ?_)
    obtain ⟨o_24_0, o_24_1, o_24_2⟩ := o_24
    try dsimp only at ho_24
    obtain ⟨ho_24_0, ho_24_1, ho_24_2⟩ := ho_24
    refine zw_some ?_
    first | exact True.intro | ((try dsimp only); first | with_reducible assumption | grind [zu_at, zu_atL, zvn] | ((repeat' apply And.intro) <;> first | with_reducible assumption | first | lia | grind [zu_at, zu_atL, zvn]))
  refine zw_zb0 (sf_X4_join o_5_1 o_14_1 v3_0 f7 (by first | with_reducible assumption | exact ⟨by with_reducible assumption, by with_reducible assumption⟩ | first | lia | grind [zu_at, zu_atL, zvn])) (fun o_20 ho_20 => ?_)
  refine zw_some ?_
  first | exact True.intro | ((try dsimp only); first | with_reducible assumption | grind [zu_at, zu_atL, zvn] | ((repeat' apply And.intro) <;> first | with_reducible assumption | first | lia | grind [zu_at, zu_atL, zvn]))
set_option maxHeartbeats 4000000 in
set_option maxRecDepth 100000 in
theorem sf_X5_readStatement (p2 : Int32) (v0_1 : Int32) (v0_2 : Int32) (v0_3 : Int32) (v1_2 : Int32) (v1_3 : Int32) (v1_4 : Int32) (v1_5 : Int32) (v1_6 : Int32) (v1_7 : Int32) (v2_0 : Int32) (v2_5 : Int32) (v3_0 : Int32) (v3_1 : Int32) (f4 : Nat → Int32) (f5 : Nat → Int32) (f6 : Nat → Int32) (f7 : Nat → Int32) (f8 : Nat → Int32) (f9 : Nat → Int32) (f10 : Nat → Int32) (f11 : Nat → Int32) (f12 : Nat → Int32) (f13 : Nat → Int32) (f14 : Nat → Int32) (f15 : Nat → Int32) (f16 : Nat → Int32) (f17 : Nat → Int32) (h_v1_2 : 0 ≤ v1_2 ∧ v1_2 ≤ 1200) (h_v1_3 : 0 ≤ v1_3 ∧ v1_3 ≤ 1200) (h_v1_4 : 0 ≤ v1_4 ∧ v1_4 ≤ 5) (h_v1_5 : 0 ≤ v1_5 ∧ v1_5 ≤ 1200) (h_v1_7 : (-1) ≤ v1_7 ∧ v1_7 ≤ 12) (h_v2_0 : 0 ≤ v2_0 ∧ v2_0 ≤ 4) (h_v3_0 : 0 ≤ v3_0 ∧ v3_0 ≤ 14) : zw (fn_X5_readStatement p2 v0_1 v0_2 v0_3 v1_2 v1_3 v1_4 v1_5 v1_6 v1_7 v2_0 v2_5 v3_0 v3_1 f4 f5 f6 f7 f8 f9 f10 f11 f12 f13 f14 f15 f16 f17) (fun r => 0 ≤ r.1 ∧ r.1 ≤ 1 ∧ 0 ≤ r.2.2.2.2.1 ∧ r.2.2.2.2.1 ≤ 1200 ∧ 0 ≤ r.2.2.2.2.2.1 ∧ r.2.2.2.2.2.1 ≤ 5 ∧ 0 ≤ r.2.2.2.2.2.2.1 ∧ r.2.2.2.2.2.2.1 ≤ 1200 ∧ (-1) ≤ r.2.2.2.2.2.2.2.2.1 ∧ r.2.2.2.2.2.2.2.2.1 ≤ 12 ∧ 0 ≤ r.2.2.2.2.2.2.2.2.2.1 ∧ r.2.2.2.2.2.2.2.2.2.1 ≤ 4 ∧ 0 ≤ r.2.2.2.2.2.2.2.2.2.2.2.1 ∧ r.2.2.2.2.2.2.2.2.2.2.2.1 ≤ 14) := by
  unfold fn_X5_readStatement
  refine zw_zb0 (sf_X5_startsStatement v1_7) (fun o_1 ho_1 => ?_)
  obtain ⟨ho_1_0, ho_1_1⟩ := ho_1
  refine zw_if (fun c1 => ?_) (fun c1 => ?_)
  · refine zw_zb0 (sf_X5_stopAt 1 v1_5) (fun o_90 ho_90 => ?_)
    obtain ⟨o_90_0, o_90_1, o_90_2⟩ := o_90
    try dsimp only at ho_90
    obtain ⟨ho_90_0, ho_90_1, ho_90_2⟩ := ho_90
    refine zw_some ?_
    first | exact True.intro | ((try dsimp only); first | with_reducible assumption | grind [zu_at, zu_atL, zvn] | ((repeat' apply And.intro) <;> first | with_reducible assumption | first | lia | grind [zu_at, zu_atL, zvn]))
  refine zw_if (fun c2 => ?_) (fun c2 => ?_)
  · refine zw_zb0 (sf_X5_stopAt 4 v1_5) (fun o_7 ho_7 => ?_)
    obtain ⟨o_7_0, o_7_1, o_7_2⟩ := o_7
    try dsimp only at ho_7
    obtain ⟨ho_7_0, ho_7_1, ho_7_2⟩ := ho_7
    refine zw_some ?_
    first | exact True.intro | ((try dsimp only); first | with_reducible assumption | grind [zu_at, zu_atL, zvn] | ((repeat' apply And.intro) <;> first | with_reducible assumption | first | lia | grind [zu_at, zu_atL, zvn]))
  refine zw_zb0 (sf_X5_isFull v1_7 v2_0 v3_0 (by first | with_reducible assumption | exact ⟨by with_reducible assumption, by with_reducible assumption⟩ | first | lia | grind [zu_at, zu_atL, zvn]) (by first | with_reducible assumption | exact ⟨by with_reducible assumption, by with_reducible assumption⟩ | first | lia | grind [zu_at, zu_atL, zvn])) (fun o_11 ho_11 => ?_)
  obtain ⟨ho_11_0, ho_11_1, ho_11_2, ho_11_3, ho_11_4, ho_11_5⟩ := ho_11
  refine zw_if (fun c3 => ?_) (fun c3 => ?_)
  · refine zw_zb0 (sf_X10_advance v1_2 v1_3 v1_4 f4 f5 (by first | with_reducible assumption | exact ⟨by with_reducible assumption, by with_reducible assumption⟩ | first | lia | grind [zu_at, zu_atL, zvn]) (by first | with_reducible assumption | exact ⟨by with_reducible assumption, by with_reducible assumption⟩ | first | lia | grind [zu_at, zu_atL, zvn]) (by first | with_reducible assumption | exact ⟨by with_reducible assumption, by with_reducible assumption⟩ | first | lia | grind [zu_at, zu_atL, zvn])) (fun o_16 ho_16 => ?_)
    obtain ⟨o_16_0, o_16_1, o_16_2, o_16_3, o_16_4⟩ := o_16
    try dsimp only at ho_16
    obtain ⟨ho_16_0, ho_16_1, ho_16_2, ho_16_3, ho_16_4, ho_16_5, ho_16_6, ho_16_7⟩ := ho_16
    refine zw_zj (fun s_20 => 0 ≤ s_20.1 ∧ s_20.1 ≤ 1 ∧ 0 ≤ s_20.2.2.2.2.1 ∧ s_20.2.2.2.2.1 ≤ 4 ∧ 0 ≤ s_20.2.2.2.2.2.2.1 ∧ s_20.2.2.2.2.2.2.1 ≤ 1200 ∧ 0 ≤ s_20.2.2.2.2.2.2.2.1 ∧ s_20.2.2.2.2.2.2.2.1 ≤ 5 ∧ 0 ≤ s_20.2.2.2.2.2.2.2.2.1 ∧ s_20.2.2.2.2.2.2.2.2.1 ≤ 1200 ∧ (-1) ≤ s_20.2.2.2.2.2.2.2.2.2.2.1 ∧ s_20.2.2.2.2.2.2.2.2.2.2.1 ≤ 12 ∧ 0 ≤ s_20.2.2.2.2.2.2.2.2.2.2.2.1 ∧ s_20.2.2.2.2.2.2.2.2.2.2.2.1 ≤ 14) (fun s_20 Hj_20 => ?_) (fun j_20 hj_20 => ?_)
    · obtain ⟨s_20_0, s_20_1, s_20_2, s_20_3, s_20_4, s_20_5, s_20_6, s_20_7, s_20_8, s_20_9, s_20_10, s_20_11, s_20_12, s_20_13, s_20_14, s_20_15, s_20_16, s_20_17, s_20_18, s_20_19, s_20_20, s_20_21, s_20_22, s_20_23, s_20_24⟩ := s_20
      try dsimp only at Hj_20
      obtain ⟨Hj_20_0, Hj_20_1, Hj_20_2, Hj_20_3, Hj_20_4, Hj_20_5, Hj_20_6, Hj_20_7, Hj_20_8, Hj_20_9, Hj_20_10, Hj_20_11, Hj_20_12, Hj_20_13⟩ := Hj_20
      refine zw_if (fun c4 => ?_) (fun c4 => ?_)
      · refine zw_some ?_
        first | exact True.intro | ((try dsimp only); first | with_reducible assumption | grind [zu_at, zu_atL, zvn] | ((repeat' apply And.intro) <;> first | with_reducible assumption | ((try clear hj_20); first | lia | grind [zu_at, zu_atL, zvn])))
      refine zw_zb0 (sf_X5_readSign 59 s_20_2 s_20_3 v1_2 s_20_6 s_20_7 s_20_8 s_20_9 s_20_10 f4 f5 (by first | with_reducible assumption | exact ⟨by with_reducible assumption, by with_reducible assumption⟩ | ((try clear hj_20); first | lia | grind [zu_at, zu_atL, zvn])) (by first | with_reducible assumption | exact ⟨by with_reducible assumption, by with_reducible assumption⟩ | ((try clear hj_20); first | lia | grind [zu_at, zu_atL, zvn])) (by first | with_reducible assumption | exact ⟨by with_reducible assumption, by with_reducible assumption⟩ | ((try clear hj_20); first | lia | grind [zu_at, zu_atL, zvn])) (by first | with_reducible assumption | exact ⟨by with_reducible assumption, by with_reducible assumption⟩ | ((try clear hj_20); first | lia | grind [zu_at, zu_atL, zvn])) (by first | with_reducible assumption | exact ⟨by with_reducible assumption, by with_reducible assumption⟩ | ((try clear hj_20); first | lia | grind [zu_at, zu_atL, zvn]))) (fun o_22 ho_22 => ?_)
      obtain ⟨o_22_0, o_22_1, o_22_2, o_22_3, o_22_4, o_22_5, o_22_6, o_22_7⟩ := o_22
      try dsimp only at ho_22
      obtain ⟨ho_22_0, ho_22_1, ho_22_2, ho_22_3, ho_22_4, ho_22_5, ho_22_6, ho_22_7, ho_22_8, ho_22_9⟩ := ho_22
      refine zw_if (fun c5 => ?_) (fun c5 => ?_)
      · refine zw_some ?_
        first | exact True.intro | ((try dsimp only); first | with_reducible assumption | grind [zu_at, zu_atL, zvn] | ((repeat' apply And.intro) <;> first | with_reducible assumption | ((try clear hj_20); first | lia | grind [zu_at, zu_atL, zvn])))
      refine zw_some ?_
      first | exact True.intro | ((try dsimp only); first | with_reducible assumption | grind [zu_at, zu_atL, zvn] | ((repeat' apply And.intro) <;> first | with_reducible assumption | ((try clear hj_20); first | lia | grind [zu_at, zu_atL, zvn])))
    refine zw_if (fun c6 => ?_) (fun c6 => ?_)
    · refine zw_zb0 (sf_X5_readFormat v0_1 v0_2 v0_3 v1_2 o_16_0 o_16_1 o_16_2 o_16_3 o_16_4 v2_0 f6 v3_0 f7 f4 f5 f8 f9 f10 (by first | with_reducible assumption | exact ⟨by with_reducible assumption, by with_reducible assumption⟩ | ((try clear hj_20); first | lia | grind [zu_at, zu_atL, zvn])) (by first | with_reducible assumption | exact ⟨by with_reducible assumption, by with_reducible assumption⟩ | ((try clear hj_20); first | lia | grind [zu_at, zu_atL, zvn])) (by first | with_reducible assumption | exact ⟨by with_reducible assumption, by with_reducible assumption⟩ | ((try clear hj_20); first | lia | grind [zu_at, zu_atL, zvn])) (by first | with_reducible assumption | exact ⟨by with_reducible assumption, by with_reducible assumption⟩ | ((try clear hj_20); first | lia | grind [zu_at, zu_atL, zvn])) (by first | with_reducible assumption | exact ⟨by with_reducible assumption, by with_reducible assumption⟩ | ((try clear hj_20); first | lia | grind [zu_at, zu_atL, zvn])) (by first | with_reducible assumption | exact ⟨by with_reducible assumption, by with_reducible assumption⟩ | ((try clear hj_20); first | lia | grind [zu_at, zu_atL, zvn])) (by first | with_reducible assumption | exact ⟨by with_reducible assumption, by with_reducible assumption⟩ | ((try clear hj_20); first | lia | grind [zu_at, zu_atL, zvn]))) (fun o_28 ho_28 => ?_)
      obtain ⟨o_28_0, o_28_1, o_28_2, o_28_3, o_28_4, o_28_5, o_28_6, o_28_7, o_28_8, o_28_9, o_28_10, o_28_11, o_28_12, o_28_13⟩ := o_28
      try dsimp only at ho_28
      obtain ⟨ho_28_0, ho_28_1, ho_28_2, ho_28_3, ho_28_4, ho_28_5, ho_28_6, ho_28_7, ho_28_8, ho_28_9, ho_28_10, ho_28_11⟩ := ho_28
      exact hj_20 _ (by first | exact True.intro | ((try dsimp only); first | with_reducible assumption | grind [zu_at, zu_atL, zvn] | ((repeat' apply And.intro) <;> first | with_reducible assumption | ((try clear hj_20); first | lia | grind [zu_at, zu_atL, zvn]))))
    refine zw_if (fun c7 => ?_) (fun c7 => ?_)
    · refine zw_zb0 (sf_X5_readAnswer v0_1 v0_2 v0_3 v1_2 o_16_0 o_16_1 o_16_2 o_16_3 o_16_4 v3_0 f7 f4 f5 f11 (by first | with_reducible assumption | exact ⟨by with_reducible assumption, by with_reducible assumption⟩ | ((try clear hj_20); first | lia | grind [zu_at, zu_atL, zvn])) (by first | with_reducible assumption | exact ⟨by with_reducible assumption, by with_reducible assumption⟩ | ((try clear hj_20); first | lia | grind [zu_at, zu_atL, zvn])) (by first | with_reducible assumption | exact ⟨by with_reducible assumption, by with_reducible assumption⟩ | ((try clear hj_20); first | lia | grind [zu_at, zu_atL, zvn])) (by first | with_reducible assumption | exact ⟨by with_reducible assumption, by with_reducible assumption⟩ | ((try clear hj_20); first | lia | grind [zu_at, zu_atL, zvn])) (by first | with_reducible assumption | exact ⟨by with_reducible assumption, by with_reducible assumption⟩ | ((try clear hj_20); first | lia | grind [zu_at, zu_atL, zvn])) (by first | with_reducible assumption | exact ⟨by with_reducible assumption, by with_reducible assumption⟩ | ((try clear hj_20); first | lia | grind [zu_at, zu_atL, zvn]))) (fun o_33 ho_33 => ?_)
      obtain ⟨o_33_0, o_33_1, o_33_2, o_33_3, o_33_4, o_33_5, o_33_6, o_33_7, o_33_8, o_33_9⟩ := o_33
      try dsimp only at ho_33
      obtain ⟨ho_33_0, ho_33_1, ho_33_2, ho_33_3, ho_33_4, ho_33_5, ho_33_6, ho_33_7, ho_33_8, ho_33_9⟩ := ho_33
      exact hj_20 _ (by first | exact True.intro | ((try dsimp only); first | with_reducible assumption | grind [zu_at, zu_atL, zvn] | ((repeat' apply And.intro) <;> first | with_reducible assumption | ((try clear hj_20); first | lia | grind [zu_at, zu_atL, zvn]))))
    refine zw_if (fun c8 => ?_) (fun c8 => ?_)
    · refine zw_zb0 (sf_X5_readAnswer v0_1 v0_2 v0_3 v1_2 o_16_0 o_16_1 o_16_2 o_16_3 o_16_4 v3_0 f7 f4 f5 f11 (by first | with_reducible assumption | exact ⟨by with_reducible assumption, by with_reducible assumption⟩ | ((try clear hj_20); first | lia | grind [zu_at, zu_atL, zvn])) (by first | with_reducible assumption | exact ⟨by with_reducible assumption, by with_reducible assumption⟩ | ((try clear hj_20); first | lia | grind [zu_at, zu_atL, zvn])) (by first | with_reducible assumption | exact ⟨by with_reducible assumption, by with_reducible assumption⟩ | ((try clear hj_20); first | lia | grind [zu_at, zu_atL, zvn])) (by first | with_reducible assumption | exact ⟨by with_reducible assumption, by with_reducible assumption⟩ | ((try clear hj_20); first | lia | grind [zu_at, zu_atL, zvn])) (by first | with_reducible assumption | exact ⟨by with_reducible assumption, by with_reducible assumption⟩ | ((try clear hj_20); first | lia | grind [zu_at, zu_atL, zvn])) (by first | with_reducible assumption | exact ⟨by with_reducible assumption, by with_reducible assumption⟩ | ((try clear hj_20); first | lia | grind [zu_at, zu_atL, zvn]))) (fun o_38 ho_38 => ?_)
      obtain ⟨o_38_0, o_38_1, o_38_2, o_38_3, o_38_4, o_38_5, o_38_6, o_38_7, o_38_8, o_38_9⟩ := o_38
      try dsimp only at ho_38
      obtain ⟨ho_38_0, ho_38_1, ho_38_2, ho_38_3, ho_38_4, ho_38_5, ho_38_6, ho_38_7, ho_38_8, ho_38_9⟩ := ho_38
      exact hj_20 _ (by first | exact True.intro | ((try dsimp only); first | with_reducible assumption | grind [zu_at, zu_atL, zvn] | ((repeat' apply And.intro) <;> first | with_reducible assumption | ((try clear hj_20); first | lia | grind [zu_at, zu_atL, zvn]))))
    refine zw_if (fun c9 => ?_) (fun c9 => ?_)
    · refine zw_zb0 (sf_X5_readAnswer v0_1 v0_2 v0_3 v1_2 o_16_0 o_16_1 o_16_2 o_16_3 o_16_4 v3_0 f7 f4 f5 f11 (by first | with_reducible assumption | exact ⟨by with_reducible assumption, by with_reducible assumption⟩ | ((try clear hj_20); first | lia | grind [zu_at, zu_atL, zvn])) (by first | with_reducible assumption | exact ⟨by with_reducible assumption, by with_reducible assumption⟩ | ((try clear hj_20); first | lia | grind [zu_at, zu_atL, zvn])) (by first | with_reducible assumption | exact ⟨by with_reducible assumption, by with_reducible assumption⟩ | ((try clear hj_20); first | lia | grind [zu_at, zu_atL, zvn])) (by first | with_reducible assumption | exact ⟨by with_reducible assumption, by with_reducible assumption⟩ | ((try clear hj_20); first | lia | grind [zu_at, zu_atL, zvn])) (by first | with_reducible assumption | exact ⟨by with_reducible assumption, by with_reducible assumption⟩ | ((try clear hj_20); first | lia | grind [zu_at, zu_atL, zvn])) (by first | with_reducible assumption | exact ⟨by with_reducible assumption, by with_reducible assumption⟩ | ((try clear hj_20); first | lia | grind [zu_at, zu_atL, zvn]))) (fun o_43 ho_43 => ?_)
      obtain ⟨o_43_0, o_43_1, o_43_2, o_43_3, o_43_4, o_43_5, o_43_6, o_43_7, o_43_8, o_43_9⟩ := o_43
      try dsimp only at ho_43
      obtain ⟨ho_43_0, ho_43_1, ho_43_2, ho_43_3, ho_43_4, ho_43_5, ho_43_6, ho_43_7, ho_43_8, ho_43_9⟩ := ho_43
      exact hj_20 _ (by first | exact True.intro | ((try dsimp only); first | with_reducible assumption | grind [zu_at, zu_atL, zvn] | ((repeat' apply And.intro) <;> first | with_reducible assumption | ((try clear hj_20); first | lia | grind [zu_at, zu_atL, zvn]))))
    refine zw_if (fun c10 => ?_) (fun c10 => ?_)
    · refine zw_zb0 (sf_X5_readCast v0_1 v0_2 v0_3 v1_2 o_16_0 o_16_1 o_16_2 o_16_3 o_16_4 f4 f5 v2_5 (by first | with_reducible assumption | exact ⟨by with_reducible assumption, by with_reducible assumption⟩ | ((try clear hj_20); first | lia | grind [zu_at, zu_atL, zvn])) (by first | with_reducible assumption | exact ⟨by with_reducible assumption, by with_reducible assumption⟩ | ((try clear hj_20); first | lia | grind [zu_at, zu_atL, zvn])) (by first | with_reducible assumption | exact ⟨by with_reducible assumption, by with_reducible assumption⟩ | ((try clear hj_20); first | lia | grind [zu_at, zu_atL, zvn])) (by first | with_reducible assumption | exact ⟨by with_reducible assumption, by with_reducible assumption⟩ | ((try clear hj_20); first | lia | grind [zu_at, zu_atL, zvn])) (by first | with_reducible assumption | exact ⟨by with_reducible assumption, by with_reducible assumption⟩ | ((try clear hj_20); first | lia | grind [zu_at, zu_atL, zvn]))) (fun o_48 ho_48 => ?_)
      obtain ⟨o_48_0, o_48_1, o_48_2, o_48_3, o_48_4, o_48_5, o_48_6, o_48_7, o_48_8, o_48_9⟩ := o_48
      try dsimp only at ho_48
      obtain ⟨ho_48_0, ho_48_1, ho_48_2, ho_48_3, ho_48_4, ho_48_5, ho_48_6, ho_48_7, ho_48_8, ho_48_9⟩ := ho_48
      exact hj_20 _ (by first | exact True.intro | ((try dsimp only); first | with_reducible assumption | grind [zu_at, zu_atL, zvn] | ((repeat' apply And.intro) <;> first | with_reducible assumption | ((try clear hj_20); first | lia | grind [zu_at, zu_atL, zvn]))))
    refine zw_if (fun c11 => ?_) (fun c11 => ?_)
    · refine zw_zb0 (sf_X5_readBox v0_1 v0_2 v0_3 v1_2 o_16_0 o_16_1 o_16_2 o_16_3 o_16_4 v2_0 f6 v3_0 v3_1 f7 f4 f5 f12 f13 f14 f15 f11 f16 f17 (by first | with_reducible assumption | exact ⟨by with_reducible assumption, by with_reducible assumption⟩ | ((try clear hj_20); first | lia | grind [zu_at, zu_atL, zvn])) (by first | with_reducible assumption | exact ⟨by with_reducible assumption, by with_reducible assumption⟩ | ((try clear hj_20); first | lia | grind [zu_at, zu_atL, zvn])) (by first | with_reducible assumption | exact ⟨by with_reducible assumption, by with_reducible assumption⟩ | ((try clear hj_20); first | lia | grind [zu_at, zu_atL, zvn])) (by first | with_reducible assumption | exact ⟨by with_reducible assumption, by with_reducible assumption⟩ | ((try clear hj_20); first | lia | grind [zu_at, zu_atL, zvn])) (by first | with_reducible assumption | exact ⟨by with_reducible assumption, by with_reducible assumption⟩ | ((try clear hj_20); first | lia | grind [zu_at, zu_atL, zvn])) (by first | with_reducible assumption | exact ⟨by with_reducible assumption, by with_reducible assumption⟩ | ((try clear hj_20); first | lia | grind [zu_at, zu_atL, zvn])) (by first | with_reducible assumption | exact ⟨by with_reducible assumption, by with_reducible assumption⟩ | ((try clear hj_20); first | lia | grind [zu_at, zu_atL, zvn]))) (fun o_53 ho_53 => ?_)
      obtain ⟨o_53_0, o_53_1, o_53_2, o_53_3, o_53_4, o_53_5, o_53_6, o_53_7, o_53_8, o_53_9, o_53_10, o_53_11, o_53_12, o_53_13, o_53_14, o_53_15, o_53_16, o_53_17, o_53_18⟩ := o_53
      try dsimp only at ho_53
      obtain ⟨ho_53_0, ho_53_1, ho_53_2, ho_53_3, ho_53_4, ho_53_5, ho_53_6, ho_53_7, ho_53_8, ho_53_9, ho_53_10, ho_53_11⟩ := ho_53
      exact hj_20 _ (by first | exact True.intro | ((try dsimp only); first | with_reducible assumption | grind [zu_at, zu_atL, zvn] | ((repeat' apply And.intro) <;> first | with_reducible assumption | ((try clear hj_20); first | lia | grind [zu_at, zu_atL, zvn]))))
    refine zw_if (fun c12 => ?_) (fun c12 => ?_)
    · refine zw_zb0 (sf_X5_readLet v0_1 v0_2 v0_3 v1_2 o_16_0 o_16_1 o_16_2 o_16_3 o_16_4 v2_0 f6 v3_0 v3_1 f7 f4 f5 f12 f13 f14 f15 f11 f16 f17 (by first | with_reducible assumption | exact ⟨by with_reducible assumption, by with_reducible assumption⟩ | ((try clear hj_20); first | lia | grind [zu_at, zu_atL, zvn])) (by first | with_reducible assumption | exact ⟨by with_reducible assumption, by with_reducible assumption⟩ | ((try clear hj_20); first | lia | grind [zu_at, zu_atL, zvn])) (by first | with_reducible assumption | exact ⟨by with_reducible assumption, by with_reducible assumption⟩ | ((try clear hj_20); first | lia | grind [zu_at, zu_atL, zvn])) (by first | with_reducible assumption | exact ⟨by with_reducible assumption, by with_reducible assumption⟩ | ((try clear hj_20); first | lia | grind [zu_at, zu_atL, zvn])) (by first | with_reducible assumption | exact ⟨by with_reducible assumption, by with_reducible assumption⟩ | ((try clear hj_20); first | lia | grind [zu_at, zu_atL, zvn])) (by first | with_reducible assumption | exact ⟨by with_reducible assumption, by with_reducible assumption⟩ | ((try clear hj_20); first | lia | grind [zu_at, zu_atL, zvn])) (by first | with_reducible assumption | exact ⟨by with_reducible assumption, by with_reducible assumption⟩ | ((try clear hj_20); first | lia | grind [zu_at, zu_atL, zvn]))) (fun o_58 ho_58 => ?_)
      obtain ⟨o_58_0, o_58_1, o_58_2, o_58_3, o_58_4, o_58_5, o_58_6, o_58_7, o_58_8, o_58_9, o_58_10, o_58_11, o_58_12, o_58_13, o_58_14, o_58_15, o_58_16, o_58_17, o_58_18⟩ := o_58
      try dsimp only at ho_58
      obtain ⟨ho_58_0, ho_58_1, ho_58_2, ho_58_3, ho_58_4, ho_58_5, ho_58_6, ho_58_7, ho_58_8, ho_58_9, ho_58_10, ho_58_11⟩ := ho_58
      exact hj_20 _ (by first | exact True.intro | ((try dsimp only); first | with_reducible assumption | grind [zu_at, zu_atL, zvn] | ((repeat' apply And.intro) <;> first | with_reducible assumption | ((try clear hj_20); first | lia | grind [zu_at, zu_atL, zvn]))))
    refine zw_if (fun c13 => ?_) (fun c13 => ?_)
    · refine zw_zb0 (sf_X5_readAnswer v0_1 v0_2 v0_3 v1_2 o_16_0 o_16_1 o_16_2 o_16_3 o_16_4 v3_0 f7 f4 f5 f11 (by first | with_reducible assumption | exact ⟨by with_reducible assumption, by with_reducible assumption⟩ | ((try clear hj_20); first | lia | grind [zu_at, zu_atL, zvn])) (by first | with_reducible assumption | exact ⟨by with_reducible assumption, by with_reducible assumption⟩ | ((try clear hj_20); first | lia | grind [zu_at, zu_atL, zvn])) (by first | with_reducible assumption | exact ⟨by with_reducible assumption, by with_reducible assumption⟩ | ((try clear hj_20); first | lia | grind [zu_at, zu_atL, zvn])) (by first | with_reducible assumption | exact ⟨by with_reducible assumption, by with_reducible assumption⟩ | ((try clear hj_20); first | lia | grind [zu_at, zu_atL, zvn])) (by first | with_reducible assumption | exact ⟨by with_reducible assumption, by with_reducible assumption⟩ | ((try clear hj_20); first | lia | grind [zu_at, zu_atL, zvn])) (by first | with_reducible assumption | exact ⟨by with_reducible assumption, by with_reducible assumption⟩ | ((try clear hj_20); first | lia | grind [zu_at, zu_atL, zvn]))) (fun o_63 ho_63 => ?_)
      obtain ⟨o_63_0, o_63_1, o_63_2, o_63_3, o_63_4, o_63_5, o_63_6, o_63_7, o_63_8, o_63_9⟩ := o_63
      try dsimp only at ho_63
      obtain ⟨ho_63_0, ho_63_1, ho_63_2, ho_63_3, ho_63_4, ho_63_5, ho_63_6, ho_63_7, ho_63_8, ho_63_9⟩ := ho_63
      exact hj_20 _ (by first | exact True.intro | ((try dsimp only); first | with_reducible assumption | grind [zu_at, zu_atL, zvn] | ((repeat' apply And.intro) <;> first | with_reducible assumption | ((try clear hj_20); first | lia | grind [zu_at, zu_atL, zvn]))))
    refine zw_if (fun c14 => ?_) (fun c14 => ?_)
    · refine zw_zb0 (sf_X5_readAnswer v0_1 v0_2 v0_3 v1_2 o_16_0 o_16_1 o_16_2 o_16_3 o_16_4 v3_0 f7 f4 f5 f11 (by first | with_reducible assumption | exact ⟨by with_reducible assumption, by with_reducible assumption⟩ | ((try clear hj_20); first | lia | grind [zu_at, zu_atL, zvn])) (by first | with_reducible assumption | exact ⟨by with_reducible assumption, by with_reducible assumption⟩ | ((try clear hj_20); first | lia | grind [zu_at, zu_atL, zvn])) (by first | with_reducible assumption | exact ⟨by with_reducible assumption, by with_reducible assumption⟩ | ((try clear hj_20); first | lia | grind [zu_at, zu_atL, zvn])) (by first | with_reducible assumption | exact ⟨by with_reducible assumption, by with_reducible assumption⟩ | ((try clear hj_20); first | lia | grind [zu_at, zu_atL, zvn])) (by first | with_reducible assumption | exact ⟨by with_reducible assumption, by with_reducible assumption⟩ | ((try clear hj_20); first | lia | grind [zu_at, zu_atL, zvn])) (by first | with_reducible assumption | exact ⟨by with_reducible assumption, by with_reducible assumption⟩ | ((try clear hj_20); first | lia | grind [zu_at, zu_atL, zvn]))) (fun o_68 ho_68 => ?_)
      obtain ⟨o_68_0, o_68_1, o_68_2, o_68_3, o_68_4, o_68_5, o_68_6, o_68_7, o_68_8, o_68_9⟩ := o_68
      try dsimp only at ho_68
      obtain ⟨ho_68_0, ho_68_1, ho_68_2, ho_68_3, ho_68_4, ho_68_5, ho_68_6, ho_68_7, ho_68_8, ho_68_9⟩ := ho_68
      exact hj_20 _ (by first | exact True.intro | ((try dsimp only); first | with_reducible assumption | grind [zu_at, zu_atL, zvn] | ((repeat' apply And.intro) <;> first | with_reducible assumption | ((try clear hj_20); first | lia | grind [zu_at, zu_atL, zvn]))))
    refine zw_if (fun c15 => ?_) (fun c15 => ?_)
    · refine zw_zb0 (sf_X5_readFixed v0_1 v0_2 v0_3 v2_0 v1_2 o_16_0 o_16_1 o_16_2 o_16_3 o_16_4 v3_0 f7 f4 f5 f6 f15 (by first | with_reducible assumption | exact ⟨by with_reducible assumption, by with_reducible assumption⟩ | ((try clear hj_20); first | lia | grind [zu_at, zu_atL, zvn])) (by first | with_reducible assumption | exact ⟨by with_reducible assumption, by with_reducible assumption⟩ | ((try clear hj_20); first | lia | grind [zu_at, zu_atL, zvn])) (by first | with_reducible assumption | exact ⟨by with_reducible assumption, by with_reducible assumption⟩ | ((try clear hj_20); first | lia | grind [zu_at, zu_atL, zvn])) (by first | with_reducible assumption | exact ⟨by with_reducible assumption, by with_reducible assumption⟩ | ((try clear hj_20); first | lia | grind [zu_at, zu_atL, zvn])) (by first | with_reducible assumption | exact ⟨by with_reducible assumption, by with_reducible assumption⟩ | ((try clear hj_20); first | lia | grind [zu_at, zu_atL, zvn])) (by first | with_reducible assumption | exact ⟨by with_reducible assumption, by with_reducible assumption⟩ | ((try clear hj_20); first | lia | grind [zu_at, zu_atL, zvn])) (by first | with_reducible assumption | exact ⟨by with_reducible assumption, by with_reducible assumption⟩ | ((try clear hj_20); first | lia | grind [zu_at, zu_atL, zvn]))) (fun o_73 ho_73 => ?_)
      obtain ⟨o_73_0, o_73_1, o_73_2, o_73_3, o_73_4, o_73_5, o_73_6, o_73_7, o_73_8, o_73_9⟩ := o_73
      try dsimp only at ho_73
      obtain ⟨ho_73_0, ho_73_1, ho_73_2, ho_73_3, ho_73_4, ho_73_5, ho_73_6, ho_73_7, ho_73_8, ho_73_9⟩ := ho_73
      exact hj_20 _ (by first | exact True.intro | ((try dsimp only); first | with_reducible assumption | grind [zu_at, zu_atL, zvn] | ((repeat' apply And.intro) <;> first | with_reducible assumption | ((try clear hj_20); first | lia | grind [zu_at, zu_atL, zvn]))))
    refine zw_if (fun c16 => ?_) (fun c16 => ?_)
    · refine zw_zb0 (sf_X5_readGroup v0_1 v0_2 v0_3 v1_2 o_16_0 o_16_1 o_16_2 o_16_3 o_16_4 v3_0 f7 f4 f5 f16 (by first | with_reducible assumption | exact ⟨by with_reducible assumption, by with_reducible assumption⟩ | ((try clear hj_20); first | lia | grind [zu_at, zu_atL, zvn])) (by first | with_reducible assumption | exact ⟨by with_reducible assumption, by with_reducible assumption⟩ | ((try clear hj_20); first | lia | grind [zu_at, zu_atL, zvn])) (by first | with_reducible assumption | exact ⟨by with_reducible assumption, by with_reducible assumption⟩ | ((try clear hj_20); first | lia | grind [zu_at, zu_atL, zvn])) (by first | with_reducible assumption | exact ⟨by with_reducible assumption, by with_reducible assumption⟩ | ((try clear hj_20); first | lia | grind [zu_at, zu_atL, zvn])) (by first | with_reducible assumption | exact ⟨by with_reducible assumption, by with_reducible assumption⟩ | ((try clear hj_20); first | lia | grind [zu_at, zu_atL, zvn])) (by first | with_reducible assumption | exact ⟨by with_reducible assumption, by with_reducible assumption⟩ | ((try clear hj_20); first | lia | grind [zu_at, zu_atL, zvn]))) (fun o_78 ho_78 => ?_)
      obtain ⟨o_78_0, o_78_1, o_78_2, o_78_3, o_78_4, o_78_5, o_78_6, o_78_7, o_78_8, o_78_9⟩ := o_78
      try dsimp only at ho_78
      obtain ⟨ho_78_0, ho_78_1, ho_78_2, ho_78_3, ho_78_4, ho_78_5, ho_78_6, ho_78_7, ho_78_8, ho_78_9⟩ := ho_78
      exact hj_20 _ (by first | exact True.intro | ((try dsimp only); first | with_reducible assumption | grind [zu_at, zu_atL, zvn] | ((repeat' apply And.intro) <;> first | with_reducible assumption | ((try clear hj_20); first | lia | grind [zu_at, zu_atL, zvn]))))
    refine zw_zb0 (sf_X5_readAnswer v0_1 v0_2 v0_3 v1_2 o_16_0 o_16_1 o_16_2 o_16_3 o_16_4 v3_0 f7 f4 f5 f11 (by first | with_reducible assumption | exact ⟨by with_reducible assumption, by with_reducible assumption⟩ | ((try clear hj_20); first | lia | grind [zu_at, zu_atL, zvn])) (by first | with_reducible assumption | exact ⟨by with_reducible assumption, by with_reducible assumption⟩ | ((try clear hj_20); first | lia | grind [zu_at, zu_atL, zvn])) (by first | with_reducible assumption | exact ⟨by with_reducible assumption, by with_reducible assumption⟩ | ((try clear hj_20); first | lia | grind [zu_at, zu_atL, zvn])) (by first | with_reducible assumption | exact ⟨by with_reducible assumption, by with_reducible assumption⟩ | ((try clear hj_20); first | lia | grind [zu_at, zu_atL, zvn])) (by first | with_reducible assumption | exact ⟨by with_reducible assumption, by with_reducible assumption⟩ | ((try clear hj_20); first | lia | grind [zu_at, zu_atL, zvn])) (by first | with_reducible assumption | exact ⟨by with_reducible assumption, by with_reducible assumption⟩ | ((try clear hj_20); first | lia | grind [zu_at, zu_atL, zvn]))) (fun o_82 ho_82 => ?_)
    obtain ⟨o_82_0, o_82_1, o_82_2, o_82_3, o_82_4, o_82_5, o_82_6, o_82_7, o_82_8, o_82_9⟩ := o_82
    try dsimp only at ho_82
    obtain ⟨ho_82_0, ho_82_1, ho_82_2, ho_82_3, ho_82_4, ho_82_5, ho_82_6, ho_82_7, ho_82_8, ho_82_9⟩ := ho_82
    exact hj_20 _ (by first | exact True.intro | ((try dsimp only); first | with_reducible assumption | grind [zu_at, zu_atL, zvn] | ((repeat' apply And.intro) <;> first | with_reducible assumption | ((try clear hj_20); first | lia | grind [zu_at, zu_atL, zvn]))))
  refine zw_zb0 (sf_X5_stopAt 4 v1_5) (fun o_86 ho_86 => ?_)
  obtain ⟨o_86_0, o_86_1, o_86_2⟩ := o_86
  try dsimp only at ho_86
  obtain ⟨ho_86_0, ho_86_1, ho_86_2⟩ := ho_86
  refine zw_some ?_
  first | exact True.intro | ((try dsimp only); first | with_reducible assumption | grind [zu_at, zu_atL, zvn] | ((repeat' apply And.intro) <;> first | with_reducible assumption | ((try clear hj_20); first | lia | grind [zu_at, zu_atL, zvn])))
set_option maxHeartbeats 4000000 in
set_option maxRecDepth 100000 in
theorem sf_X5_read (p2 : Int32) (v0_1 : Int32) (f4 : Nat → Int32) (f5 : Nat → Int32) (f6 : Nat → Int32) (f7 : Nat → Int32) (f8 : Nat → Int32) (f9 : Nat → Int32) (f10 : Nat → Int32) (f11 : Nat → Int32) (f12 : Nat → Int32) (f13 : Nat → Int32) (f14 : Nat → Int32) (f15 : Nat → Int32) (f16 : Nat → Int32) (f17 : Nat → Int32) : zw (fn_X5_read p2 v0_1 f4 f5 f6 f7 f8 f9 f10 f11 f12 f13 f14 f15 f16 f17) (fun r => 0 ≤ r.1 ∧ r.1 ≤ 1 ∧ 0 ≤ r.2.2.2.2.1 ∧ r.2.2.2.2.1 ≤ 4 ∧ 0 ≤ r.2.2.2.2.2.2.1 ∧ r.2.2.2.2.2.2.1 ≤ 14 ∧ 0 ≤ r.2.2.2.2.2.2.2.2.1 ∧ r.2.2.2.2.2.2.2.2.1 ≤ 1200 ∧ 0 ≤ r.2.2.2.2.2.2.2.2.2.1 ∧ r.2.2.2.2.2.2.2.2.2.1 ≤ 1200 ∧ 0 ≤ r.2.2.2.2.2.2.2.2.2.2.1 ∧ r.2.2.2.2.2.2.2.2.2.2.1 ≤ 5 ∧ 0 ≤ r.2.2.2.2.2.2.2.2.2.2.2.1 ∧ r.2.2.2.2.2.2.2.2.2.2.2.1 ≤ 1200 ∧ (-1) ≤ r.2.2.2.2.2.2.2.2.2.2.2.2.2.1 ∧ r.2.2.2.2.2.2.2.2.2.2.2.2.2.1 ≤ 12) := by
  unfold fn_X5_read
  refine zw_zb0 (sf_X9_clear) (fun o_1 ho_1 => ?_)
  obtain ⟨o_1_0, o_1_1, o_1_2, o_1_3⟩ := o_1
  try dsimp only at ho_1
  obtain ⟨ho_1_0, ho_1_1, ho_1_2, ho_1_3, ho_1_4, ho_1_5, ho_1_6, ho_1_7, ho_1_8, ho_1_9⟩ := ho_1
  refine zw_zb0 (sf_X10_open p2 f4 f5) (fun o_5 ho_5 => ?_)
  obtain ⟨o_5_0, o_5_1, o_5_2, o_5_3, o_5_4, o_5_5⟩ := o_5
  try dsimp only at ho_5
  obtain ⟨ho_5_0, ho_5_1, ho_5_2, ho_5_3, ho_5_4, ho_5_5, ho_5_6, ho_5_7, ho_5_8, ho_5_9⟩ := ho_5
  refine zw_zl32 (fun s_9 => 0 ≤ s_9.1 ∧ s_9.1 ≤ 41 ∧ 0 ≤ s_9.2.2.2.2.1 ∧ s_9.2.2.2.2.1 ≤ 4 ∧ 0 ≤ s_9.2.2.2.2.2.2.1 ∧ s_9.2.2.2.2.2.2.1 ≤ 1200 ∧ 0 ≤ s_9.2.2.2.2.2.2.2.1 ∧ s_9.2.2.2.2.2.2.2.1 ≤ 5 ∧ 0 ≤ s_9.2.2.2.2.2.2.2.2.1 ∧ s_9.2.2.2.2.2.2.2.2.1 ≤ 1200 ∧ (-1) ≤ s_9.2.2.2.2.2.2.2.2.2.2.1 ∧ s_9.2.2.2.2.2.2.2.2.2.2.1 ≤ 12 ∧ 0 ≤ s_9.2.2.2.2.2.2.2.2.2.2.2.1 ∧ s_9.2.2.2.2.2.2.2.2.2.2.2.1 ≤ 14) (fun s_9 => 41 - s_9.1) (by (try dsimp only); first | with_reducible assumption | grind [zu_at, zu_atL, zvn] | ((repeat' apply And.intro) <;> first | with_reducible assumption | first | lia | grind [zu_at, zu_atL, zvn])) (by (try dsimp only); first | lia | grind [zu_at, zu_atL, zvn]) (fun s_9 back_9 Hback_9 hback_9 => ?_)
  obtain ⟨s_9_0, s_9_1, s_9_2, s_9_3, s_9_4, s_9_5, s_9_6, s_9_7, s_9_8, s_9_9, s_9_10, s_9_11, s_9_12, s_9_13, s_9_14, s_9_15, s_9_16, s_9_17, s_9_18, s_9_19, s_9_20, s_9_21, s_9_22, s_9_23, s_9_24⟩ := s_9
  try dsimp only at Hback_9 hback_9
  obtain ⟨Hback_9_0, Hback_9_1, Hback_9_2, Hback_9_3, Hback_9_4, Hback_9_5, Hback_9_6, Hback_9_7, Hback_9_8, Hback_9_9, Hback_9_10, Hback_9_11, Hback_9_12, Hback_9_13⟩ := Hback_9
  refine zw_zj (fun _ => True) (fun s_10 Hj_10 => ?_) (fun j_10 hj_10 => ?_)
  · refine zw_zj (fun s_11 => (s_11 = 0 ∨ 1 ≤ s_9_4 ∧ 1 ≤ s_9_11) ∧ 0 ≤ s_11 ∧ s_11 ≤ 1) (fun s_11 Hj_11 => ?_) (fun j_11 hj_11 => ?_)
    · obtain ⟨Hj_11_0, Hj_11_1, Hj_11_2⟩ := Hj_11
      refine zw_if (fun c1 => ?_) (fun c1 => ?_)
      · refine zw_zb0 (sf_X5_stopAt 4 p2) (fun o_13 ho_13 => ?_)
        obtain ⟨o_13_0, o_13_1, o_13_2⟩ := o_13
        try dsimp only at ho_13
        obtain ⟨ho_13_0, ho_13_1, ho_13_2⟩ := ho_13
        refine zw_if (fun c2 => ?_) (fun c2 => ?_)
        · refine zw_some ?_
          first | exact True.intro | ((try dsimp only); first | with_reducible assumption | grind [zu_at, zu_atL, zvn] | ((repeat' apply And.intro) <;> first | with_reducible assumption | ((try clear hback_9); (try clear hj_10); (try clear hj_11); first | lia | grind [zu_at, zu_atL, zvn])))
        refine zw_some ?_
        first | exact True.intro | ((try dsimp only); first | with_reducible assumption | grind [zu_at, zu_atL, zvn] | ((repeat' apply And.intro) <;> first | with_reducible assumption | ((try clear hback_9); (try clear hj_10); (try clear hj_11); first | lia | grind [zu_at, zu_atL, zvn])))
      refine zw_some ?_
      first | exact True.intro | ((try dsimp only); first | with_reducible assumption | grind [zu_at, zu_atL, zvn] | ((repeat' apply And.intro) <;> first | with_reducible assumption | ((try clear hback_9); (try clear hj_10); (try clear hj_11); first | lia | grind [zu_at, zu_atL, zvn])))
    refine zw_zj (fun _ => True) (fun s_18 Hj_18 => ?_) (fun j_18 hj_18 => ?_)
    · exact hj_11 _ (by first | exact True.intro | ((try dsimp only); first | with_reducible assumption | grind [zu_at, zu_atL, zvn] | ((repeat' apply And.intro) <;> first | with_reducible assumption | ((try clear hback_9); (try clear hj_10); (try clear hj_11); (try clear hj_18); first | lia | grind [zu_at, zu_atL, zvn]))))
    refine zw_if (fun c3 => ?_) (fun c3 => ?_)
    · exact hj_18 _ (by first | exact True.intro | ((try dsimp only); first | with_reducible assumption | grind [zu_at, zu_atL, zvn] | ((repeat' apply And.intro) <;> first | with_reducible assumption | ((try clear hback_9); (try clear hj_10); (try clear hj_11); (try clear hj_18); first | lia | grind [zu_at, zu_atL, zvn]))))
    refine zw_if (fun c4 => ?_) (fun c4 => ?_)
    · exact hj_18 _ (by first | exact True.intro | ((try dsimp only); first | with_reducible assumption | grind [zu_at, zu_atL, zvn] | ((repeat' apply And.intro) <;> first | with_reducible assumption | ((try clear hback_9); (try clear hj_10); (try clear hj_11); (try clear hj_18); first | lia | grind [zu_at, zu_atL, zvn]))))
    exact hj_11 _ (by first | exact True.intro | ((try dsimp only); first | with_reducible assumption | grind [zu_at, zu_atL, zvn] | ((repeat' apply And.intro) <;> first | with_reducible assumption | ((try clear hback_9); (try clear hj_10); (try clear hj_11); (try clear hj_18); first | lia | grind [zu_at, zu_atL, zvn]))))
  refine zw_if (fun c5 => ?_) (fun c5 => ?_)
  · exact hj_10 _ (by first | exact True.intro | ((try dsimp only); first | with_reducible assumption | grind [zu_at, zu_atL, zvn] | ((repeat' apply And.intro) <;> first | with_reducible assumption | ((try clear hback_9); (try clear hj_10); (try clear hj_11); (try clear hj_18); first | lia | grind [zu_at, zu_atL, zvn]))))
  refine zw_if (fun c6 => ?_) (fun c6 => ?_)
  · exact hj_10 _ (by first | exact True.intro | ((try dsimp only); first | with_reducible assumption | grind [zu_at, zu_atL, zvn] | ((repeat' apply And.intro) <;> first | with_reducible assumption | ((try clear hback_9); (try clear hj_10); (try clear hj_11); (try clear hj_18); first | lia | grind [zu_at, zu_atL, zvn]))))
  refine zw_zb0 (sf_X5_readStatement s_9_0 s_9_1 s_9_2 s_9_3 o_5_0 s_9_6 s_9_7 s_9_8 s_9_9 s_9_10 s_9_4 s_9_5 s_9_11 s_9_12 f4 f5 s_9_13 s_9_17 s_9_14 s_9_15 s_9_16 s_9_20 s_9_23 s_9_24 s_9_18 s_9_19 s_9_22 s_9_21 (by first | with_reducible assumption | exact ⟨by with_reducible assumption, by with_reducible assumption⟩ | ((try clear hback_9); (try clear hj_10); (try clear hj_11); (try clear hj_18); first | lia | grind [zu_at, zu_atL, zvn])) (by first | with_reducible assumption | exact ⟨by with_reducible assumption, by with_reducible assumption⟩ | ((try clear hback_9); (try clear hj_10); (try clear hj_11); (try clear hj_18); first | lia | grind [zu_at, zu_atL, zvn])) (by first | with_reducible assumption | exact ⟨by with_reducible assumption, by with_reducible assumption⟩ | ((try clear hback_9); (try clear hj_10); (try clear hj_11); (try clear hj_18); first | lia | grind [zu_at, zu_atL, zvn])) (by first | with_reducible assumption | exact ⟨by with_reducible assumption, by with_reducible assumption⟩ | ((try clear hback_9); (try clear hj_10); (try clear hj_11); (try clear hj_18); first | lia | grind [zu_at, zu_atL, zvn])) (by first | with_reducible assumption | exact ⟨by with_reducible assumption, by with_reducible assumption⟩ | ((try clear hback_9); (try clear hj_10); (try clear hj_11); (try clear hj_18); first | lia | grind [zu_at, zu_atL, zvn])) (by first | with_reducible assumption | exact ⟨by with_reducible assumption, by with_reducible assumption⟩ | ((try clear hback_9); (try clear hj_10); (try clear hj_11); (try clear hj_18); first | lia | grind [zu_at, zu_atL, zvn])) (by first | with_reducible assumption | exact ⟨by with_reducible assumption, by with_reducible assumption⟩ | ((try clear hback_9); (try clear hj_10); (try clear hj_11); (try clear hj_18); first | lia | grind [zu_at, zu_atL, zvn]))) (fun o_23 ho_23 => ?_)
  obtain ⟨o_23_0, o_23_1, o_23_2, o_23_3, o_23_4, o_23_5, o_23_6, o_23_7, o_23_8, o_23_9, o_23_10, o_23_11, o_23_12, o_23_13, o_23_14, o_23_15, o_23_16, o_23_17, o_23_18, o_23_19, o_23_20, o_23_21, o_23_22, o_23_23, o_23_24⟩ := o_23
  try dsimp only at ho_23
  obtain ⟨ho_23_0, ho_23_1, ho_23_2, ho_23_3, ho_23_4, ho_23_5, ho_23_6, ho_23_7, ho_23_8, ho_23_9, ho_23_10, ho_23_11, ho_23_12, ho_23_13⟩ := ho_23
  refine zw_if (fun c7 => ?_) (fun c7 => ?_)
  · refine zw_some ?_
    first | exact True.intro | ((try dsimp only); first | with_reducible assumption | grind [zu_at, zu_atL, zvn] | ((repeat' apply And.intro) <;> first | with_reducible assumption | ((try clear hback_9); (try clear hj_10); (try clear hj_11); (try clear hj_18); first | lia | grind [zu_at, zu_atL, zvn])))
  exact hback_9 _ (by (try dsimp only); first | with_reducible assumption | grind [zu_at, zu_atL, zvn] | ((repeat' apply And.intro) <;> first | with_reducible assumption | ((try clear hback_9); (try clear hj_10); (try clear hj_11); (try clear hj_18); first | lia | grind [zu_at, zu_atL, zvn]))) (by (try dsimp only); ((try clear hback_9); (try clear hj_10); (try clear hj_11); (try clear hj_18); first | lia | grind [zu_at, zu_atL, zvn])) (by (try dsimp only); ((try clear hback_9); (try clear hj_10); (try clear hj_11); (try clear hj_18); first | lia | grind [zu_at, zu_atL, zvn]))
set_option maxHeartbeats 4000000 in
set_option maxRecDepth 100000 in
theorem sf_X6_held (j0 : Int64) : zw (fn_X6_held j0) (fun r => True) := by
  unfold fn_X6_held
  refine zw_zn (fun x_1 ex_1 => ?_)
  refine zw_some ?_
  first | exact True.intro | ((try dsimp only); (repeat' apply And.intro) <;> first | with_reducible assumption | first | lia | grind [zu_at, zu_atL, zvn])
