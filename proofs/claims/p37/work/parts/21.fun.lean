theorem zn_X12_laysCouple_X12 : ∀ w ∈ wsX120, w ∈ wsX12_laysCouple := fun _ h => List.mem_cons_of_mem _ (List.mem_append_right _ h)
theorem zw_X12_laysCouple_1294 : Cond.fieldLink RX12 186 "ShortEnoughModel" "fronts" "I" ∈ wsX12_laysCouple := List.mem_of_getElem? (i := 1) (by decide +kernel)
theorem zw_X12_laysCouple_1295 : Cond.fieldLink RX12 177 "ShortEnoughModel" "frontCost" "[I" ∈ wsX12_laysCouple := List.mem_of_getElem? (i := 2) (by decide +kernel)
theorem zw_X12_laysCouple_1296 : Cond.fieldLink RX12 180 "ShortEnoughModel" "frontError" "[J" ∈ wsX12_laysCouple := List.mem_of_getElem? (i := 3) (by decide +kernel)
theorem zw_X12_laysCouple_1297 : Cond.fieldLink RX12 183 "ShortEnoughModel" "frontMany" "[I" ∈ wsX12_laysCouple := List.mem_of_getElem? (i := 4) (by decide +kernel)
set_option maxHeartbeats 4000000 in
set_option maxRecDepth 100000 in
theorem zf_X12_laysCouple (l : Launch) (dC : Nat → ClassId) (dI : Nat → Nat → Nat) (h0 : Nat) (p1 : Int32) (j2 : Int64) (a0 : Nat → Nat) (b0 : Nat → Int32) (c0 : Nat → Int64) (k1 : Nat) (f1 : Nat → Int32) (k2 : Nat) (f2 : Nat → Int64) (k3 : Nat) (f3 : Nat → Int32) (o : Int32 × (Nat → Int32) × (Nat → Int64) × (Nat → Int32)) (hfn : fn_X12_laysCouple p1 j2 (b0 57) f1 f2 f3 = some o) (sz : Nat) : zMv l yX12_laysCouple wsX12_laysCouple ({ frames := 0, cells := 0, slots := 0, locals := 0 }) (dC, dI) vwCl [.ref h0, .int p1, .long j2] [(h0, .inr (12, zO a0 b0 c0)), zVi (a0 54) k1 1024 f1, zVl (a0 55) k2 1024 f2, zVi (a0 56) k3 1024 f3] [(k1, .int), (k2, .long), (k3, .int)] (fun _ => True) [(h0, .inr (12, zO a0 (zI b0 57 o.1) c0)), zVi (a0 54) k1 1024 o.2.1, zVl (a0 55) k2 1024 o.2.2.1, zVi (a0 56) k3 1024 o.2.2.2] [(k1, .int), (k2, .long), (k3, .int)] sz := by
  refine zgov (cc := cX12_laysCouple) (maxL := 6) (ret := none) (C0 := RX12) (lv0 := [(0, .ref h0), (1, .int p1), (2, .long j2)]) zpl_X12 rfl rfl rfl (Nat.le_of_ble_eq_true rfl) ?_
  intro p e s m below meth c A ls Q hx hb hr hts hown hlocks hml hP hK hD hA hS hl hQ
  unfold fn_X12_laysCouple at hfn
  refine lv_iconst (v := 0) hx hb dX12_laysCouple_0 zci_0 ?_
  refine lv_istore (lv' := [(4, .int 0), (0, .ref h0), (1, .int p1), (2, .long j2)]) hx hb dX12_laysCouple_1 hl (of_decide_eq_true rfl) rfl (fun ls hl => ?_)
  obtain ⟨bd_1, ebd_1, hfn⟩ := zl_g hfn
  have lp_1 : ∀ (n : Nat) (s_1 : Int32) (H : Heap) (locs : List Loc) (ls : Array Slot), zl bd_1 n s_1 = some o → va_P (dC, dI) vwCl [(h0, .inr (12, zO a0 b0 c0)), zVi (a0 54) k1 1024 f1, zVl (a0 55) k2 1024 f2, zVi (a0 56) k3 1024 f3] H → va_D A [(h0, .inr (12, zO a0 b0 c0)), zVi (a0 54) k1 1024 f1, zVl (a0 55) k2 1024 f2, zVi (a0 56) k3 1024 f3] → va_S A s.heap H locs → lv_has ls 6 [(4, .int s_1), (0, .ref h0), (1, .int p1), (2, .long j2)] → W p l e (headSpec wsX12_laysCouple ({ frames := 0, cells := 0, slots := 0, locals := 0 })).room s m ([.ref h0, .int p1, .long j2] : List Value).toArray below meth c H locs 0 0 Q (F0 m 3 ls []) := by
    intro n
    induction n with
    | zero => exact fun _ _ _ _ hfn => (zl_0 hfn).elim
    | succ n ih_1 =>
      intro s_1 H locs ls hfn hP hD hS hl
      have hfn := zl_s ebd_1 hfn
      refine lv_iload hx hb dX12_laysCouple_3 (lv_at hl 0 rfl) ?_
      refine lv_aload_n hx hb dX12_laysCouple_5 rfl (lv_at hl 1 rfl) ?_
      refine va_get (D := (dC, dI)) (ci := 12) (v := .int (b0 57)) (C := RX12) (T := TX12) (N := 67) hx hb hts zn_X12_laysCouple_X12 hown hK hP 0 rfl rfl 57 (of_decide_eq_true rfl) (hts (.fieldLink RX12 186 "ShortEnoughModel" "fronts" "I") zw_X12_laysCouple_1294) (fun _ h9 => h9) rfl dX12_laysCouple_6 ?_
      obtain ⟨j_2, ej_2, hfn⟩ := zj_g hfn
      have jp_2 : ∀ (s_2 : Unit) (H : Heap) (locs : List Loc) (ls : Array Slot), j_2 s_2 = some o → va_P (dC, dI) vwCl [(h0, .inr (12, zO a0 b0 c0)), zVi (a0 54) k1 1024 f1, zVl (a0 55) k2 1024 f2, zVi (a0 56) k3 1024 f3] H → va_D A [(h0, .inr (12, zO a0 b0 c0)), zVi (a0 54) k1 1024 f1, zVl (a0 55) k2 1024 f2, zVi (a0 56) k3 1024 f3] → va_S A s.heap H locs → lv_has ls 6 [(4, .int s_1), (0, .ref h0), (1, .int p1), (2, .long j2)] → W p l e (headSpec wsX12_laysCouple ({ frames := 0, cells := 0, slots := 0, locals := 0 })).room s m ([.ref h0, .int p1, .long j2] : List Value).toArray below meth c H locs 0 0 Q (F0 m 52 ls []) := by
        intro s_2 H locs ls hfn hP hD hS hl
        have hfn := zj_s ej_2 hfn
        refine lv_iload hx hb dX12_laysCouple_52 (lv_at hl 0 rfl) ?_
        refine lv_aload_n hx hb dX12_laysCouple_54 rfl (lv_at hl 1 rfl) ?_
        refine va_get (D := (dC, dI)) (ci := 12) (v := .int (b0 57)) (C := RX12) (T := TX12) (N := 67) hx hb hts zn_X12_laysCouple_X12 hown hK hP 0 rfl rfl 57 (of_decide_eq_true rfl) (hts (.fieldLink RX12 186 "ShortEnoughModel" "fronts" "I") zw_X12_laysCouple_1294) (fun _ h9 => h9) rfl dX12_laysCouple_55 ?_
        obtain ⟨j_3, ej_3, hfn⟩ := zj_g hfn
        have jp_3 : ∀ (s_3 : Unit) (H : Heap) (locs : List Loc) (ls : Array Slot), j_3 s_3 = some o → va_P (dC, dI) vwCl [(h0, .inr (12, zO a0 b0 c0)), zVi (a0 54) k1 1024 f1, zVl (a0 55) k2 1024 f2, zVi (a0 56) k3 1024 f3] H → va_D A [(h0, .inr (12, zO a0 b0 c0)), zVi (a0 54) k1 1024 f1, zVl (a0 55) k2 1024 f2, zVi (a0 56) k3 1024 f3] → va_S A s.heap H locs → lv_has ls 6 [(4, .int s_1), (0, .ref h0), (1, .int p1), (2, .long j2)] → W p l e (headSpec wsX12_laysCouple ({ frames := 0, cells := 0, slots := 0, locals := 0 })).room s m ([.ref h0, .int p1, .long j2] : List Value).toArray below meth c H locs 0 0 Q (F0 m 96 ls []) := by
          intro s_3 H locs ls hfn hP hD hS hl
          have hfn := zj_s ej_3 hfn
          refine lv_aload_n hx hb dX12_laysCouple_96 rfl (lv_at hl 1 rfl) ?_
          refine va_get (D := (dC, dI)) (ci := 12) (v := .int (b0 57)) (C := RX12) (T := TX12) (N := 67) hx hb hts zn_X12_laysCouple_X12 hown hK hP 0 rfl rfl 57 (of_decide_eq_true rfl) (hts (.fieldLink RX12 186 "ShortEnoughModel" "fronts" "I") zw_X12_laysCouple_1294) (fun _ h9 => h9) rfl dX12_laysCouple_97 ?_
          refine lv_istore (lv' := [(5, .int (b0 57)), (4, .int s_1), (0, .ref h0), (1, .int p1), (2, .long j2)]) hx hb dX12_laysCouple_100 hl (of_decide_eq_true rfl) rfl (fun ls hl => ?_)
          obtain ⟨bd_4, ebd_4, hfn⟩ := zl_g hfn
          have lp_4 : ∀ (n : Nat) (s_4 : Int32 × (Nat → Int32) × (Nat → Int64) × (Nat → Int32)) (H : Heap) (locs : List Loc) (ls : Array Slot), zl bd_4 n s_4 = some o → va_P (dC, dI) vwCl [(h0, .inr (12, zO a0 b0 c0)), zVi (a0 54) k1 1024 s_4.2.1, zVl (a0 55) k2 1024 s_4.2.2.1, zVi (a0 56) k3 1024 s_4.2.2.2] H → va_D A [(h0, .inr (12, zO a0 b0 c0)), zVi (a0 54) k1 1024 s_4.2.1, zVl (a0 55) k2 1024 s_4.2.2.1, zVi (a0 56) k3 1024 s_4.2.2.2] → va_S A s.heap H locs → lv_has ls 6 [(5, .int s_4.1), (4, .int s_1), (0, .ref h0), (1, .int p1), (2, .long j2)] → W p l e (headSpec wsX12_laysCouple ({ frames := 0, cells := 0, slots := 0, locals := 0 })).room s m ([.ref h0, .int p1, .long j2] : List Value).toArray below meth c H locs 0 0 Q (F0 m 102 ls []) := by
            intro n
            induction n with
            | zero => exact fun _ _ _ _ hfn => (zl_0 hfn).elim
            | succ n ih_4 =>
              intro s_4 H locs ls hfn hP hD hS hl
              have hfn := zl_s ebd_4 hfn
              refine lv_iload hx hb dX12_laysCouple_102 (lv_at hl 0 rfl) ?_
              refine lv_iload hx hb dX12_laysCouple_104 (lv_at hl 1 rfl) ?_
              refine lv_icmp_le (tgt := 163) hx hb dX12_laysCouple_106 (of_decide_eq_true rfl) (fun c_5 => ?_) (fun c_5 => ?_)
              · have hfn := (if_pos c_5).symm.trans hfn
                refine lv_aload_n hx hb dX12_laysCouple_163 rfl (lv_at hl 2 rfl) ?_
                refine va_get (D := (dC, dI)) (ci := 12) (v := .ref (a0 54)) (C := RX12) (T := TX12) (N := 67) hx hb hts zn_X12_laysCouple_X12 hown hK hP 0 rfl rfl 54 (of_decide_eq_true rfl) (hts (.fieldLink RX12 177 "ShortEnoughModel" "frontCost" "[I") zw_X12_laysCouple_1295) (fun _ h9 => h9) rfl dX12_laysCouple_164 ?_
                refine lv_iload hx hb dX12_laysCouple_167 (lv_at hl 1 rfl) ?_
                refine lv_iload_n hx hb dX12_laysCouple_169 rfl (lv_at hl 3 rfl) ?_
                obtain ⟨h_6, hfn⟩ := zg_s hfn
                refine va_iast hx hb hK hP hD hS 1 0 rfl rfl h_6 dX12_laysCouple_170 (fun H locs hP hD hS => ?_)
                have hP : va_P (dC, dI) vwCl [(h0, .inr (12, zO a0 b0 c0)), zVi (a0 54) k1 1024 (upd s_4.2.1 s_1.toNatClampNeg p1), zVl (a0 55) k2 1024 s_4.2.2.1, zVi (a0 56) k3 1024 s_4.2.2.2] H := hP
                have hD := zDW hD hP rfl
                refine lv_aload_n hx hb dX12_laysCouple_171 rfl (lv_at hl 2 rfl) ?_
                refine va_get (D := (dC, dI)) (ci := 12) (v := .ref (a0 55)) (C := RX12) (T := TX12) (N := 67) hx hb hts zn_X12_laysCouple_X12 hown hK hP 0 rfl rfl 55 (of_decide_eq_true rfl) (hts (.fieldLink RX12 180 "ShortEnoughModel" "frontError" "[J") zw_X12_laysCouple_1296) (fun _ h9 => h9) rfl dX12_laysCouple_172 ?_
                refine lv_iload hx hb dX12_laysCouple_175 (lv_at hl 1 rfl) ?_
                refine lv_lload_n hx hb dX12_laysCouple_177 rfl (lv_at hl 4 rfl) ?_
                refine va_last hx hb hK hP hD hS 2 1 rfl rfl h_6 dX12_laysCouple_178 (fun H locs hP hD hS => ?_)
                have hP : va_P (dC, dI) vwCl [(h0, .inr (12, zO a0 b0 c0)), zVi (a0 54) k1 1024 (upd s_4.2.1 s_1.toNatClampNeg p1), zVl (a0 55) k2 1024 (vp_updL s_4.2.2.1 s_1.toNatClampNeg j2), zVi (a0 56) k3 1024 s_4.2.2.2] H := hP
                have hD := zDW hD hP rfl
                refine lv_aload_n hx hb dX12_laysCouple_179 rfl (lv_at hl 2 rfl) ?_
                refine va_get (D := (dC, dI)) (ci := 12) (v := .ref (a0 56)) (C := RX12) (T := TX12) (N := 67) hx hb hts zn_X12_laysCouple_X12 hown hK hP 0 rfl rfl 56 (of_decide_eq_true rfl) (hts (.fieldLink RX12 183 "ShortEnoughModel" "frontMany" "[I") zw_X12_laysCouple_1297) (fun _ h9 => h9) rfl dX12_laysCouple_180 ?_
                refine lv_iload hx hb dX12_laysCouple_183 (lv_at hl 1 rfl) ?_
                refine lv_iconst (v := 1) hx hb dX12_laysCouple_185 zci_1 ?_
                refine va_iast hx hb hK hP hD hS 3 2 rfl rfl h_6 dX12_laysCouple_186 (fun H locs hP hD hS => ?_)
                have hP : va_P (dC, dI) vwCl [(h0, .inr (12, zO a0 b0 c0)), zVi (a0 54) k1 1024 (upd s_4.2.1 s_1.toNatClampNeg p1), zVl (a0 55) k2 1024 (vp_updL s_4.2.2.1 s_1.toNatClampNeg j2), zVi (a0 56) k3 1024 (upd s_4.2.2.2 s_1.toNatClampNeg 1)] H := hP
                have hD := zDW hD hP rfl
                refine lv_aload_n hx hb dX12_laysCouple_187 rfl (lv_at hl 2 rfl) ?_
                refine lv_dup hx hb dX12_laysCouple_188 rfl ?_
                refine va_get (D := (dC, dI)) (ci := 12) (v := .int (b0 57)) (C := RX12) (T := TX12) (N := 67) hx hb hts zn_X12_laysCouple_X12 hown hK hP 0 rfl rfl 57 (of_decide_eq_true rfl) (hts (.fieldLink RX12 186 "ShortEnoughModel" "fronts" "I") zw_X12_laysCouple_1294) (fun _ h9 => h9) rfl dX12_laysCouple_189 ?_
                refine lv_iconst (v := 1) hx hb dX12_laysCouple_192 zci_1 ?_
                refine lv_iadd hx hb dX12_laysCouple_193 ?_
                refine va_put (D := (dC, dI)) (ci := 12) (v := .int ((b0 57) + 1)) (ty := .int) (C := RX12) (T := TX12) (N := 67) hx hb hts zn_X12_laysCouple_X12 tyX12 tyX12_ok nmX12 hown hK hP hD hS 0 rfl rfl 57 (of_decide_eq_true rfl) (hts (.fieldLink RX12 186 "ShortEnoughModel" "fronts" "I") zw_X12_laysCouple_1294) (fun _ h9 => h9) rfl (tyX12_ok 57 (of_decide_eq_true rfl)) rfl rfl (Nat.le_of_ble_eq_true rfl) dX12_laysCouple_194 (fun H locs hP hD hS => ?_)
                have hP : va_P (dC, dI) vwCl [(h0, .inr (12, zO a0 (zI b0 57 ((b0 57) + 1)) c0)), zVi (a0 54) k1 1024 (upd s_4.2.1 s_1.toNatClampNeg p1), zVl (a0 55) k2 1024 (vp_updL s_4.2.2.1 s_1.toNatClampNeg j2), zVi (a0 56) k3 1024 (upd s_4.2.2.2 s_1.toNatClampNeg 1)] H := hP
                have hD := zDW hD hP rfl
                have ho := Option.some.inj hfn
                subst ho
                exact zrv hx hb hr hK hP hD hS hQ trivial hlocks dX12_laysCouple_197
              have hfn := (if_neg c_5).symm.trans hfn
              refine lv_aload_n hx hb dX12_laysCouple_109 rfl (lv_at hl 2 rfl) ?_
              refine va_get (D := (dC, dI)) (ci := 12) (v := .ref (a0 54)) (C := RX12) (T := TX12) (N := 67) hx hb hts zn_X12_laysCouple_X12 hown hK hP 0 rfl rfl 54 (of_decide_eq_true rfl) (hts (.fieldLink RX12 177 "ShortEnoughModel" "frontCost" "[I") zw_X12_laysCouple_1295) (fun _ h9 => h9) rfl dX12_laysCouple_110 ?_
              refine lv_iload hx hb dX12_laysCouple_113 (lv_at hl 0 rfl) ?_
              refine lv_aload_n hx hb dX12_laysCouple_115 rfl (lv_at hl 2 rfl) ?_
              refine va_get (D := (dC, dI)) (ci := 12) (v := .ref (a0 54)) (C := RX12) (T := TX12) (N := 67) hx hb hts zn_X12_laysCouple_X12 hown hK hP 0 rfl rfl 54 (of_decide_eq_true rfl) (hts (.fieldLink RX12 177 "ShortEnoughModel" "frontCost" "[I") zw_X12_laysCouple_1295) (fun _ h9 => h9) rfl dX12_laysCouple_116 ?_
              refine lv_iload hx hb dX12_laysCouple_119 (lv_at hl 0 rfl) ?_
              refine lv_iconst (v := 1) hx hb dX12_laysCouple_121 zci_1 ?_
              refine lv_isub hx hb dX12_laysCouple_122 ?_
              obtain ⟨h_7, hfn⟩ := zg_s hfn
              refine va_iald hx hb hK hP 1 0 rfl rfl h_7 dX12_laysCouple_123 ?_
              obtain ⟨h_8, hfn⟩ := zg_s hfn
              refine va_iast hx hb hK hP hD hS 1 0 rfl rfl h_8 dX12_laysCouple_124 (fun H locs hP hD hS => ?_)
              obtain ⟨g_9, eg_9⟩ : ∃ g : Nat → Int32, g = (upd s_4.2.1 s_4.1.toNatClampNeg (s_4.2.1 (s_4.1 - 1).toNatClampNeg)) := ⟨_, rfl⟩
              have hfn := zn_s hfn eg_9
              have hP : va_P (dC, dI) vwCl [(h0, .inr (12, zO a0 b0 c0)), zVi (a0 54) k1 1024 g_9, zVl (a0 55) k2 1024 s_4.2.2.1, zVi (a0 56) k3 1024 s_4.2.2.2] H := by rw [eg_9]; exact hP
              have hD : va_D A [(h0, .inr (12, zO a0 b0 c0)), zVi (a0 54) k1 1024 g_9, zVl (a0 55) k2 1024 s_4.2.2.1, zVi (a0 56) k3 1024 s_4.2.2.2] := by rw [eg_9]; exact hD
              refine lv_aload_n hx hb dX12_laysCouple_125 rfl (lv_at hl 2 rfl) ?_
              refine va_get (D := (dC, dI)) (ci := 12) (v := .ref (a0 55)) (C := RX12) (T := TX12) (N := 67) hx hb hts zn_X12_laysCouple_X12 hown hK hP 0 rfl rfl 55 (of_decide_eq_true rfl) (hts (.fieldLink RX12 180 "ShortEnoughModel" "frontError" "[J") zw_X12_laysCouple_1296) (fun _ h9 => h9) rfl dX12_laysCouple_126 ?_
              refine lv_iload hx hb dX12_laysCouple_129 (lv_at hl 0 rfl) ?_
              refine lv_aload_n hx hb dX12_laysCouple_131 rfl (lv_at hl 2 rfl) ?_
              refine va_get (D := (dC, dI)) (ci := 12) (v := .ref (a0 55)) (C := RX12) (T := TX12) (N := 67) hx hb hts zn_X12_laysCouple_X12 hown hK hP 0 rfl rfl 55 (of_decide_eq_true rfl) (hts (.fieldLink RX12 180 "ShortEnoughModel" "frontError" "[J") zw_X12_laysCouple_1296) (fun _ h9 => h9) rfl dX12_laysCouple_132 ?_
              refine lv_iload hx hb dX12_laysCouple_135 (lv_at hl 0 rfl) ?_
              refine lv_iconst (v := 1) hx hb dX12_laysCouple_137 zci_1 ?_
              refine lv_isub hx hb dX12_laysCouple_138 ?_
              refine va_lald hx hb hK hP 2 1 rfl rfl h_7 dX12_laysCouple_139 ?_
              refine va_last hx hb hK hP hD hS 2 1 rfl rfl h_8 dX12_laysCouple_140 (fun H locs hP hD hS => ?_)
              obtain ⟨g_10, eg_10⟩ : ∃ g : Nat → Int64, g = (vp_updL s_4.2.2.1 s_4.1.toNatClampNeg (s_4.2.2.1 (s_4.1 - 1).toNatClampNeg)) := ⟨_, rfl⟩
              have hfn := zn_s hfn eg_10
              have hP : va_P (dC, dI) vwCl [(h0, .inr (12, zO a0 b0 c0)), zVi (a0 54) k1 1024 g_9, zVl (a0 55) k2 1024 g_10, zVi (a0 56) k3 1024 s_4.2.2.2] H := by rw [eg_10]; exact hP
              have hD : va_D A [(h0, .inr (12, zO a0 b0 c0)), zVi (a0 54) k1 1024 g_9, zVl (a0 55) k2 1024 g_10, zVi (a0 56) k3 1024 s_4.2.2.2] := by rw [eg_10]; exact hD
              refine lv_aload_n hx hb dX12_laysCouple_141 rfl (lv_at hl 2 rfl) ?_
              refine va_get (D := (dC, dI)) (ci := 12) (v := .ref (a0 56)) (C := RX12) (T := TX12) (N := 67) hx hb hts zn_X12_laysCouple_X12 hown hK hP 0 rfl rfl 56 (of_decide_eq_true rfl) (hts (.fieldLink RX12 183 "ShortEnoughModel" "frontMany" "[I") zw_X12_laysCouple_1297) (fun _ h9 => h9) rfl dX12_laysCouple_142 ?_
              refine lv_iload hx hb dX12_laysCouple_145 (lv_at hl 0 rfl) ?_
              refine lv_aload_n hx hb dX12_laysCouple_147 rfl (lv_at hl 2 rfl) ?_
              refine va_get (D := (dC, dI)) (ci := 12) (v := .ref (a0 56)) (C := RX12) (T := TX12) (N := 67) hx hb hts zn_X12_laysCouple_X12 hown hK hP 0 rfl rfl 56 (of_decide_eq_true rfl) (hts (.fieldLink RX12 183 "ShortEnoughModel" "frontMany" "[I") zw_X12_laysCouple_1297) (fun _ h9 => h9) rfl dX12_laysCouple_148 ?_
              refine lv_iload hx hb dX12_laysCouple_151 (lv_at hl 0 rfl) ?_
              refine lv_iconst (v := 1) hx hb dX12_laysCouple_153 zci_1 ?_
              refine lv_isub hx hb dX12_laysCouple_154 ?_
              refine va_iald hx hb hK hP 3 2 rfl rfl h_7 dX12_laysCouple_155 ?_
              refine va_iast hx hb hK hP hD hS 3 2 rfl rfl h_8 dX12_laysCouple_156 (fun H locs hP hD hS => ?_)
              obtain ⟨g_11, eg_11⟩ : ∃ g : Nat → Int32, g = (upd s_4.2.2.2 s_4.1.toNatClampNeg (s_4.2.2.2 (s_4.1 - 1).toNatClampNeg)) := ⟨_, rfl⟩
              have hfn := zn_s hfn eg_11
              have hP : va_P (dC, dI) vwCl [(h0, .inr (12, zO a0 b0 c0)), zVi (a0 54) k1 1024 g_9, zVl (a0 55) k2 1024 g_10, zVi (a0 56) k3 1024 g_11] H := by rw [eg_11]; exact hP
              have hD : va_D A [(h0, .inr (12, zO a0 b0 c0)), zVi (a0 54) k1 1024 g_9, zVl (a0 55) k2 1024 g_10, zVi (a0 56) k3 1024 g_11] := by rw [eg_11]; exact hD
              refine lv_iinc (v := (s_4.1 + (-1))) (lv' := [(5, .int (s_4.1 + (-1))), (4, .int s_1), (0, .ref h0), (1, .int p1), (2, .long j2)]) hx hb dX12_laysCouple_157 hl (k := 0) rfl rfl (of_decide_eq_true rfl) rfl (fun ls hl => ?_)
              refine lv_goto (tgt := 102) hx hb dX12_laysCouple_160 (of_decide_eq_true rfl) ?_
              exact ih_4 ((s_4.1 + (-1)), g_9, g_10, g_11) H locs ls hfn hP hD hS (lv_sub hl [0, 1, 2, 3, 4] rfl)
          exact lp_4 _ ((b0 57), f1, f2, f3) H locs ls hfn hP hD hS (lv_sub hl [0, 1, 2, 3, 4] rfl)
        refine lv_icmp_ge (tgt := 96) hx hb dX12_laysCouple_58 (of_decide_eq_true rfl) (fun c_12 => ?_) (fun c_12 => ?_)
        · have hfn := (if_pos c_12).symm.trans hfn
          exact jp_3 () H locs ls hfn hP hD hS (lv_sub hl [0, 1, 2, 3] rfl)
        have hfn := (if_neg c_12).symm.trans hfn
        refine lv_aload_n hx hb dX12_laysCouple_61 rfl (lv_at hl 1 rfl) ?_
        refine va_get (D := (dC, dI)) (ci := 12) (v := .ref (a0 54)) (C := RX12) (T := TX12) (N := 67) hx hb hts zn_X12_laysCouple_X12 hown hK hP 0 rfl rfl 54 (of_decide_eq_true rfl) (hts (.fieldLink RX12 177 "ShortEnoughModel" "frontCost" "[I") zw_X12_laysCouple_1295) (fun _ h9 => h9) rfl dX12_laysCouple_62 ?_
        refine lv_iload hx hb dX12_laysCouple_65 (lv_at hl 0 rfl) ?_
        obtain ⟨h_13, hfn⟩ := zg_s hfn
        refine va_iald hx hb hK hP 1 0 rfl rfl h_13 dX12_laysCouple_67 ?_
        refine lv_iload_n hx hb dX12_laysCouple_68 rfl (lv_at hl 2 rfl) ?_
        refine lv_icmp_ne (tgt := 96) hx hb dX12_laysCouple_69 (of_decide_eq_true rfl) (fun c_14 => ?_) (fun c_14 => ?_)
        · have hfn := (if_neg c_14).symm.trans hfn
          exact jp_3 () H locs ls hfn hP hD hS (lv_sub hl [0, 1, 2, 3] rfl)
        have hfn := (if_pos c_14).symm.trans hfn
        refine lv_aload_n hx hb dX12_laysCouple_72 rfl (lv_at hl 1 rfl) ?_
        refine va_get (D := (dC, dI)) (ci := 12) (v := .ref (a0 55)) (C := RX12) (T := TX12) (N := 67) hx hb hts zn_X12_laysCouple_X12 hown hK hP 0 rfl rfl 55 (of_decide_eq_true rfl) (hts (.fieldLink RX12 180 "ShortEnoughModel" "frontError" "[J") zw_X12_laysCouple_1296) (fun _ h9 => h9) rfl dX12_laysCouple_73 ?_
        refine lv_iload hx hb dX12_laysCouple_76 (lv_at hl 0 rfl) ?_
        refine va_lald hx hb hK hP 2 1 rfl rfl h_13 dX12_laysCouple_78 ?_
        refine lv_lload_n hx hb dX12_laysCouple_79 rfl (lv_at hl 3 rfl) ?_
        refine W.lcmp hx hb dX12_laysCouple_80 ?_
        refine lv_if_ne (tgt := 96) hx hb dX12_laysCouple_81 (of_decide_eq_true rfl) (fun c_15 => ?_) (fun c_15 => ?_)
        · have hfn := (if_neg c_15).symm.trans hfn
          exact jp_3 () H locs ls hfn hP hD hS (lv_sub hl [0, 1, 2, 3] rfl)
        have hfn := (if_pos c_15).symm.trans hfn
        refine lv_aload_n hx hb dX12_laysCouple_84 rfl (lv_at hl 1 rfl) ?_
        refine va_get (D := (dC, dI)) (ci := 12) (v := .ref (a0 56)) (C := RX12) (T := TX12) (N := 67) hx hb hts zn_X12_laysCouple_X12 hown hK hP 0 rfl rfl 56 (of_decide_eq_true rfl) (hts (.fieldLink RX12 183 "ShortEnoughModel" "frontMany" "[I") zw_X12_laysCouple_1297) (fun _ h9 => h9) rfl dX12_laysCouple_85 ?_
        refine lv_iload hx hb dX12_laysCouple_88 (lv_at hl 0 rfl) ?_
        refine lv_dup2_11 hx hb dX12_laysCouple_90 rfl rfl ?_
        refine va_iald hx hb hK hP 3 2 rfl rfl h_13 dX12_laysCouple_91 ?_
        refine lv_iconst (v := 1) hx hb dX12_laysCouple_92 zci_1 ?_
        refine lv_iadd hx hb dX12_laysCouple_93 ?_
        refine va_iast hx hb hK hP hD hS 3 2 rfl rfl h_13 dX12_laysCouple_94 (fun H locs hP hD hS => ?_)
        have hP : va_P (dC, dI) vwCl [(h0, .inr (12, zO a0 b0 c0)), zVi (a0 54) k1 1024 f1, zVl (a0 55) k2 1024 f2, zVi (a0 56) k3 1024 (upd f3 s_1.toNatClampNeg ((f3 s_1.toNatClampNeg) + 1))] H := hP
        have hD := zDW hD hP rfl
        have ho := Option.some.inj hfn
        subst ho
        exact zrv hx hb hr hK hP hD hS hQ trivial hlocks dX12_laysCouple_95
      refine lv_icmp_ge (tgt := 52) hx hb dX12_laysCouple_9 (of_decide_eq_true rfl) (fun c_16 => ?_) (fun c_16 => ?_)
      · have hfn := (if_pos c_16).symm.trans hfn
        exact jp_2 () H locs ls hfn hP hD hS (lv_sub hl [0, 1, 2, 3] rfl)
      have hfn := (if_neg c_16).symm.trans hfn
      refine lv_aload_n hx hb dX12_laysCouple_12 rfl (lv_at hl 1 rfl) ?_
      refine va_get (D := (dC, dI)) (ci := 12) (v := .ref (a0 54)) (C := RX12) (T := TX12) (N := 67) hx hb hts zn_X12_laysCouple_X12 hown hK hP 0 rfl rfl 54 (of_decide_eq_true rfl) (hts (.fieldLink RX12 177 "ShortEnoughModel" "frontCost" "[I") zw_X12_laysCouple_1295) (fun _ h9 => h9) rfl dX12_laysCouple_13 ?_
      refine lv_iload hx hb dX12_laysCouple_16 (lv_at hl 0 rfl) ?_
      obtain ⟨h_17, hfn⟩ := zg_s hfn
      refine va_iald hx hb hK hP 1 0 rfl rfl h_17 dX12_laysCouple_18 ?_
      refine lv_iload_n hx hb dX12_laysCouple_19 rfl (lv_at hl 2 rfl) ?_
      refine lv_icmp_lt (tgt := 46) hx hb dX12_laysCouple_20 (of_decide_eq_true rfl) (fun c_18 => ?_) (fun c_18 => ?_)
      · have hfn := (if_pos c_18).symm.trans hfn
        refine lv_iinc (v := (s_1 + 1)) (lv' := [(4, .int (s_1 + 1)), (0, .ref h0), (1, .int p1), (2, .long j2)]) hx hb dX12_laysCouple_46 hl (k := 0) rfl rfl (of_decide_eq_true rfl) rfl (fun ls hl => ?_)
        refine lv_goto (tgt := 3) hx hb dX12_laysCouple_49 (of_decide_eq_true rfl) ?_
        exact ih_1 (s_1 + 1) H locs ls hfn hP hD hS (lv_sub hl [0, 1, 2, 3] rfl)
      have hfn := (if_neg c_18).symm.trans hfn
      refine lv_aload_n hx hb dX12_laysCouple_23 rfl (lv_at hl 1 rfl) ?_
      refine va_get (D := (dC, dI)) (ci := 12) (v := .ref (a0 54)) (C := RX12) (T := TX12) (N := 67) hx hb hts zn_X12_laysCouple_X12 hown hK hP 0 rfl rfl 54 (of_decide_eq_true rfl) (hts (.fieldLink RX12 177 "ShortEnoughModel" "frontCost" "[I") zw_X12_laysCouple_1295) (fun _ h9 => h9) rfl dX12_laysCouple_24 ?_
      refine lv_iload hx hb dX12_laysCouple_27 (lv_at hl 0 rfl) ?_
      refine va_iald hx hb hK hP 1 0 rfl rfl h_17 dX12_laysCouple_29 ?_
      refine lv_iload_n hx hb dX12_laysCouple_30 rfl (lv_at hl 2 rfl) ?_
      refine lv_icmp_ne (tgt := 52) hx hb dX12_laysCouple_31 (of_decide_eq_true rfl) (fun c_19 => ?_) (fun c_19 => ?_)
      · have hfn := (if_neg c_19).symm.trans hfn
        exact jp_2 () H locs ls hfn hP hD hS (lv_sub hl [0, 1, 2, 3] rfl)
      have hfn := (if_pos c_19).symm.trans hfn
      refine lv_aload_n hx hb dX12_laysCouple_34 rfl (lv_at hl 1 rfl) ?_
      refine va_get (D := (dC, dI)) (ci := 12) (v := .ref (a0 55)) (C := RX12) (T := TX12) (N := 67) hx hb hts zn_X12_laysCouple_X12 hown hK hP 0 rfl rfl 55 (of_decide_eq_true rfl) (hts (.fieldLink RX12 180 "ShortEnoughModel" "frontError" "[J") zw_X12_laysCouple_1296) (fun _ h9 => h9) rfl dX12_laysCouple_35 ?_
      refine lv_iload hx hb dX12_laysCouple_38 (lv_at hl 0 rfl) ?_
      refine va_lald hx hb hK hP 2 1 rfl rfl h_17 dX12_laysCouple_40 ?_
      refine lv_lload_n hx hb dX12_laysCouple_41 rfl (lv_at hl 3 rfl) ?_
      refine W.lcmp hx hb dX12_laysCouple_42 ?_
      refine lv_if_ge (tgt := 52) hx hb dX12_laysCouple_43 (of_decide_eq_true rfl) (fun c_20 => ?_) (fun c_20 => ?_)
      · have hfn := (if_pos c_20).symm.trans hfn
        exact jp_2 () H locs ls hfn hP hD hS (lv_sub hl [0, 1, 2, 3] rfl)
      have hfn := (if_neg c_20).symm.trans hfn
      refine lv_iinc (v := (s_1 + 1)) (lv' := [(4, .int (s_1 + 1)), (0, .ref h0), (1, .int p1), (2, .long j2)]) hx hb dX12_laysCouple_46 hl (k := 0) rfl rfl (of_decide_eq_true rfl) rfl (fun ls hl => ?_)
      refine lv_goto (tgt := 3) hx hb dX12_laysCouple_49 (of_decide_eq_true rfl) ?_
      exact ih_1 (s_1 + 1) H locs ls hfn hP hD hS (lv_sub hl [0, 1, 2, 3] rfl)
  exact lp_1 _ 0 s.heap [] ls hfn hP hD hS (lv_sub hl [0, 1, 2, 3] rfl)
theorem zn_X12_laysFront_X12 : ∀ w ∈ wsX120, w ∈ wsX12_laysFront := fun _ h => List.mem_cons_of_mem _ (List.mem_append_right _ h)
theorem zw_X12_laysFront_1299 : Cond.fieldLink RX12 186 "ShortEnoughModel" "fronts" "I" ∈ wsX12_laysFront := List.mem_of_getElem? (i := 1) (by decide +kernel)
theorem zw_X12_laysFront_1300 : Cond.fieldLink RX12 135 "ShortEnoughModel" "error" "[J" ∈ wsX12_laysFront := List.mem_of_getElem? (i := 2) (by decide +kernel)
theorem zw_X12_laysFront_1301 : Cond.fieldLink RX12 177 "ShortEnoughModel" "frontCost" "[I" ∈ wsX12_laysFront := List.mem_of_getElem? (i := 4) (by decide +kernel)
theorem zw_X12_laysFront_1302 : Cond.fieldLink RX12 180 "ShortEnoughModel" "frontError" "[J" ∈ wsX12_laysFront := List.mem_of_getElem? (i := 3) (by decide +kernel)
theorem zw_X12_laysFront_1303 : Cond.fieldLink RX12 183 "ShortEnoughModel" "frontMany" "[I" ∈ wsX12_laysFront := List.mem_of_getElem? (i := 5) (by decide +kernel)
set_option maxHeartbeats 4000000 in
set_option maxRecDepth 100000 in
theorem zf_X12_laysFront (l : Launch) (dC : Nat → ClassId) (dI : Nat → Nat → Nat) (h0 : Nat) (p1 : Int32) (a0 : Nat → Nat) (b0 : Nat → Int32) (c0 : Nat → Int64) (k1 : Nat) (f1 : Nat → Int32) (k2 : Nat) (f2 : Nat → Int32) (k3 : Nat) (f3 : Nat → Int32) (k4 : Nat) (f4 : Nat → Int32) (k5 : Nat) (f5 : Nat → Int32) (k6 : Nat) (f6 : Nat → Int32) (k7 : Nat) (f7 : Nat → Int32) (k8 : Nat) (f8 : Nat → Int32) (k9 : Nat) (f9 : Nat → Int32) (k10 : Nat) (f10 : Nat → Int64) (k11 : Nat) (f11 : Nat → Int64) (k12 : Nat) (f12 : Nat → Int64) (k13 : Nat) (f13 : Nat → Int64) (k14 : Nat) (f14 : Nat → Int32) (k15 : Nat) (f15 : Nat → Int64) (k16 : Nat) (f16 : Nat → Int32) (k17 : Nat) (f17 : Nat → Int32) (k18 : Nat) (f18 : Nat → Int32) (k19 : Nat) (f19 : Nat → Int32) (k20 : Nat) (f20 : Nat → Int32) (k21 : Nat) (f21 : Nat → Int64) (k22 : Nat) (f22 : Nat → Int32) (o : Int32 × Int32 × Int32 × (Nat → Int32) × (Nat → Int64) × (Nat → Int64) × (Nat → Int64) × (Nat → Int32) × (Nat → Int64) × (Nat → Int32)) (hfn : fn_X12_laysFront p1 (b0 30) (b0 33) (c0 34) (b0 41) (b0 42) f1 f2 f3 f4 f5 f6 f7 f8 f9 f10 f11 f12 f13 f14 f15 f16 f17 f18 f19 f20 f21 f22 = some o) (sz : Nat) : zMv l yX12_laysFront wsX12_laysFront ({ frames := 5, cells := 0, slots := 0, locals := 134 }) (dC, dI) vwCl [.ref h0, .int p1] [(h0, .inr (12, zO a0 b0 c0)), zVi (a0 12) k1 2 f1, zVi (a0 17) k2 2 f2, zVi (a0 37) k3 14 f3, zVi (a0 39) k4 14 f4, zVi (a0 29) k5 14 f5, zVi (a0 27) k6 28 f6, zVi (a0 19) k7 28 f7, zVi (a0 20) k8 28 f8, zVi (a0 21) k9 28 f9, zVl (a0 31) k10 14 f10, zVl (a0 22) k11 28 f11, zVl (a0 23) k12 28 f12, zVl (a0 32) k13 14 f13, zVi (a0 14) k14 8 f14, zVl (a0 40) k15 14 f15, zVi (a0 15) k16 8 f16, zVi (a0 26) k17 28 f17, zVi (a0 24) k18 2 f18, zVi (a0 16) k19 8 f19, zVi (a0 54) k20 1024 f20, zVl (a0 55) k21 1024 f21, zVi (a0 56) k22 1024 f22] [(k1, .int), (k2, .int), (k3, .int), (k4, .int), (k5, .int), (k6, .int), (k7, .int), (k8, .int), (k9, .int), (k10, .long), (k11, .long), (k12, .long), (k13, .long), (k14, .int), (k15, .long), (k16, .int), (k17, .int), (k18, .int), (k19, .int), (k20, .int), (k21, .long), (k22, .int)] (fun _ => True) [(h0, .inr (12, zO a0 (zI (zI (zI b0 41 o.1) 42 o.2.1) 57 o.2.2.1) c0)), zVi (a0 12) k1 2 f1, zVi (a0 17) k2 2 f2, zVi (a0 37) k3 14 f3, zVi (a0 39) k4 14 o.2.2.2.1, zVi (a0 29) k5 14 f5, zVi (a0 27) k6 28 f6, zVi (a0 19) k7 28 f7, zVi (a0 20) k8 28 f8, zVi (a0 21) k9 28 f9, zVl (a0 31) k10 14 o.2.2.2.2.1, zVl (a0 22) k11 28 f11, zVl (a0 23) k12 28 f12, zVl (a0 32) k13 14 o.2.2.2.2.2.1, zVi (a0 14) k14 8 f14, zVl (a0 40) k15 14 o.2.2.2.2.2.2.1, zVi (a0 15) k16 8 f16, zVi (a0 26) k17 28 f17, zVi (a0 24) k18 2 f18, zVi (a0 16) k19 8 f19, zVi (a0 54) k20 1024 o.2.2.2.2.2.2.2.1, zVl (a0 55) k21 1024 o.2.2.2.2.2.2.2.2.1, zVi (a0 56) k22 1024 o.2.2.2.2.2.2.2.2.2] [(k1, .int), (k2, .int), (k3, .int), (k4, .int), (k5, .int), (k6, .int), (k7, .int), (k8, .int), (k9, .int), (k10, .long), (k11, .long), (k12, .long), (k13, .long), (k14, .int), (k15, .long), (k16, .int), (k17, .int), (k18, .int), (k19, .int), (k20, .int), (k21, .long), (k22, .int)] sz := by
  refine zgov (cc := cX12_laysFront) (maxL := 5) (ret := none) (C0 := RX12) (lv0 := [(0, .ref h0), (1, .int p1)]) zpl_X12 rfl rfl rfl (Nat.le_of_ble_eq_true rfl) ?_
  intro p e s m below meth c A ls Q hx hb hr hts hown hlocks hml hP hK hD hA hS hl hQ
  unfold fn_X12_laysFront at hfn
  refine lv_aload_n hx hb dX12_laysFront_0 rfl (lv_at hl 0 rfl) ?_
  refine lv_iconst (v := 0) hx hb dX12_laysFront_1 zci_0 ?_
  refine va_put (D := (dC, dI)) (ci := 12) (v := .int 0) (ty := .int) (C := RX12) (T := TX12) (N := 67) hx hb hts zn_X12_laysFront_X12 tyX12 tyX12_ok nmX12 hown hK hP hD hS 0 rfl rfl 57 (of_decide_eq_true rfl) (hts (.fieldLink RX12 186 "ShortEnoughModel" "fronts" "I") zw_X12_laysFront_1299) (fun _ h9 => h9) rfl (tyX12_ok 57 (of_decide_eq_true rfl)) rfl rfl (Nat.le_of_ble_eq_true rfl) dX12_laysFront_2 (fun H locs hP hD hS => ?_)
  have hP : va_P (dC, dI) vwCl [(h0, .inr (12, zO a0 (zI b0 57 0) c0)), zVi (a0 12) k1 2 f1, zVi (a0 17) k2 2 f2, zVi (a0 37) k3 14 f3, zVi (a0 39) k4 14 f4, zVi (a0 29) k5 14 f5, zVi (a0 27) k6 28 f6, zVi (a0 19) k7 28 f7, zVi (a0 20) k8 28 f8, zVi (a0 21) k9 28 f9, zVl (a0 31) k10 14 f10, zVl (a0 22) k11 28 f11, zVl (a0 23) k12 28 f12, zVl (a0 32) k13 14 f13, zVi (a0 14) k14 8 f14, zVl (a0 40) k15 14 f15, zVi (a0 15) k16 8 f16, zVi (a0 26) k17 28 f17, zVi (a0 24) k18 2 f18, zVi (a0 16) k19 8 f19, zVi (a0 54) k20 1024 f20, zVl (a0 55) k21 1024 f21, zVi (a0 56) k22 1024 f22] H := hP
  have hD := zDW hD hP rfl
  refine lv_aload_n hx hb dX12_laysFront_5 rfl (lv_at hl 0 rfl) ?_
  obtain ⟨o_1, hqo_1, hfn⟩ := zb_s hfn
  refine zcVi (ci := 12) (rest := []) (pc' := 9) (ws' := [(h0, .inr (12, zO a0 (zI b0 57 0) c0)), zVi (a0 12) k1 2 f1, zVi (a0 17) k2 2 f2, zVi (a0 37) k3 14 f3, zVi (a0 39) k4 14 f4, zVi (a0 29) k5 14 f5, zVi (a0 27) k6 28 f6, zVi (a0 19) k7 28 f7, zVi (a0 20) k8 28 f8, zVi (a0 21) k9 28 f9, zVl (a0 31) k10 14 f10, zVl (a0 22) k11 28 f11, zVl (a0 23) k12 28 f12, zVl (a0 32) k13 14 f13, zVi (a0 14) k14 8 f14, zVl (a0 40) k15 14 f15, zVi (a0 15) k16 8 f16, zVi (a0 26) k17 28 f17, zVi (a0 24) k18 2 f18, zVi (a0 16) k19 8 f19, zVi (a0 54) k20 1024 f20, zVl (a0 55) k21 1024 f21, zVi (a0 56) k22 1024 f22]) hP hK hD hS hA ⟨hx, hb, hml, hown, hts⟩ (zf_X12_allChoices l dC dI h0 a0 (zI b0 57 0) c0 k1 f1 o_1 hqo_1 H.size) (cwV 0 hts gX12_laysFront_X12_allChoices rfl rfl rfl zhd_X12_allChoices ⟨Nat.le_of_ble_eq_true rfl, Nat.le_of_ble_eq_true rfl⟩) [0, 1] rfl (of_decide_eq_true rfl) [0] rfl rfl rfl rfl hl.1 rfl (Nat.le_of_ble_eq_true rfl) dX12_laysFront_6 ⟨Nat.le_of_ble_eq_true rfl, Nat.le_of_ble_eq_true rfl⟩ [some 0, some 1] (of_decide_eq_true rfl) (of_decide_eq_true rfl) rfl rfl rfl (fun H locs hP hD hS => ?_)
  refine lv_istore_n (lv' := [(2, .int o_1), (0, .ref h0), (1, .int p1)]) hx hb dX12_laysFront_9 rfl hl (of_decide_eq_true rfl) rfl (fun ls hl => ?_)
  refine lv_iconst (v := 0) hx hb dX12_laysFront_10 zci_0 ?_
  refine lv_istore_n (lv' := [(3, .int 0), (2, .int o_1), (0, .ref h0), (1, .int p1)]) hx hb dX12_laysFront_11 rfl hl (of_decide_eq_true rfl) rfl (fun ls hl => ?_)
  obtain ⟨bd_5, ebd_5, hfn⟩ := zl_g hfn
  have lp_5 : ∀ (n : Nat) (s_5 : Int32 × Int32 × Int32 × Int32 × (Nat → Int64) × (Nat → Int64) × (Nat → Int32) × (Nat → Int64) × (Nat → Int32) × (Nat → Int64) × (Nat → Int32)) (H : Heap) (locs : List Loc) (ls : Array Slot), zl bd_5 n s_5 = some o → va_P (dC, dI) vwCl [(h0, .inr (12, zO a0 (zI (zI (zI b0 41 s_5.2.1) 42 s_5.2.2.1) 57 s_5.2.2.2.1) c0)), zVi (a0 12) k1 2 f1, zVi (a0 17) k2 2 f2, zVi (a0 37) k3 14 f3, zVi (a0 39) k4 14 s_5.2.2.2.2.2.2.1, zVi (a0 29) k5 14 f5, zVi (a0 27) k6 28 f6, zVi (a0 19) k7 28 f7, zVi (a0 20) k8 28 f8, zVi (a0 21) k9 28 f9, zVl (a0 31) k10 14 s_5.2.2.2.2.1, zVl (a0 22) k11 28 f11, zVl (a0 23) k12 28 f12, zVl (a0 32) k13 14 s_5.2.2.2.2.2.1, zVi (a0 14) k14 8 f14, zVl (a0 40) k15 14 s_5.2.2.2.2.2.2.2.1, zVi (a0 15) k16 8 f16, zVi (a0 26) k17 28 f17, zVi (a0 24) k18 2 f18, zVi (a0 16) k19 8 f19, zVi (a0 54) k20 1024 s_5.2.2.2.2.2.2.2.2.1, zVl (a0 55) k21 1024 s_5.2.2.2.2.2.2.2.2.2.1, zVi (a0 56) k22 1024 s_5.2.2.2.2.2.2.2.2.2.2] H → va_D A [(h0, .inr (12, zO a0 (zI (zI (zI b0 41 s_5.2.1) 42 s_5.2.2.1) 57 s_5.2.2.2.1) c0)), zVi (a0 12) k1 2 f1, zVi (a0 17) k2 2 f2, zVi (a0 37) k3 14 f3, zVi (a0 39) k4 14 s_5.2.2.2.2.2.2.1, zVi (a0 29) k5 14 f5, zVi (a0 27) k6 28 f6, zVi (a0 19) k7 28 f7, zVi (a0 20) k8 28 f8, zVi (a0 21) k9 28 f9, zVl (a0 31) k10 14 s_5.2.2.2.2.1, zVl (a0 22) k11 28 f11, zVl (a0 23) k12 28 f12, zVl (a0 32) k13 14 s_5.2.2.2.2.2.1, zVi (a0 14) k14 8 f14, zVl (a0 40) k15 14 s_5.2.2.2.2.2.2.2.1, zVi (a0 15) k16 8 f16, zVi (a0 26) k17 28 f17, zVi (a0 24) k18 2 f18, zVi (a0 16) k19 8 f19, zVi (a0 54) k20 1024 s_5.2.2.2.2.2.2.2.2.1, zVl (a0 55) k21 1024 s_5.2.2.2.2.2.2.2.2.2.1, zVi (a0 56) k22 1024 s_5.2.2.2.2.2.2.2.2.2.2] → va_S A s.heap H locs → lv_has ls 5 [(3, .int s_5.1), (2, .int o_1), (0, .ref h0), (1, .int p1)] → W p l e (headSpec wsX12_laysFront ({ frames := 5, cells := 0, slots := 0, locals := 134 })).room s m ([.ref h0, .int p1] : List Value).toArray below meth c H locs 0 0 Q (F0 m 12 ls []) := by
    intro n
    induction n with
    | zero => exact fun _ _ _ _ hfn => (zl_0 hfn).elim
    | succ n ih_5 =>
      intro s_5 H locs ls hfn hP hD hS hl
      have hfn := zl_s ebd_5 hfn
      refine lv_iload_n hx hb dX12_laysFront_12 rfl (lv_at hl 0 rfl) ?_
      refine lv_iload_n hx hb dX12_laysFront_13 rfl (lv_at hl 1 rfl) ?_
      refine lv_icmp_ge (tgt := 49) hx hb dX12_laysFront_14 (of_decide_eq_true rfl) (fun c_6 => ?_) (fun c_6 => ?_)
      · have hfn := (if_pos c_6).symm.trans hfn
        refine lv_iconst (v := 0) hx hb dX12_laysFront_49 zci_0 ?_
        refine lv_istore_n (lv' := [(3, .int 0), (2, .int o_1), (0, .ref h0), (1, .int p1)]) hx hb dX12_laysFront_50 rfl hl (of_decide_eq_true rfl) rfl (fun ls hl => ?_)
        refine lv_iconst (v := 0) hx hb dX12_laysFront_51 zci_0 ?_
        refine lv_istore (lv' := [(4, .int 0), (3, .int 0), (2, .int o_1), (0, .ref h0), (1, .int p1)]) hx hb dX12_laysFront_52 hl (of_decide_eq_true rfl) rfl (fun ls hl => ?_)
        obtain ⟨bd_7, ebd_7, hfn⟩ := zl_g hfn
        have lp_7 : ∀ (n : Nat) (s_7 : Int32 × Int32 × (Nat → Int32) × (Nat → Int64) × (Nat → Int32)) (H : Heap) (locs : List Loc) (ls : Array Slot), zl bd_7 n s_7 = some o → va_P (dC, dI) vwCl [(h0, .inr (12, zO a0 (zI (zI (zI b0 41 s_5.2.1) 42 s_5.2.2.1) 57 s_5.2.2.2.1) c0)), zVi (a0 12) k1 2 f1, zVi (a0 17) k2 2 f2, zVi (a0 37) k3 14 f3, zVi (a0 39) k4 14 s_5.2.2.2.2.2.2.1, zVi (a0 29) k5 14 f5, zVi (a0 27) k6 28 f6, zVi (a0 19) k7 28 f7, zVi (a0 20) k8 28 f8, zVi (a0 21) k9 28 f9, zVl (a0 31) k10 14 s_5.2.2.2.2.1, zVl (a0 22) k11 28 f11, zVl (a0 23) k12 28 f12, zVl (a0 32) k13 14 s_5.2.2.2.2.2.1, zVi (a0 14) k14 8 f14, zVl (a0 40) k15 14 s_5.2.2.2.2.2.2.2.1, zVi (a0 15) k16 8 f16, zVi (a0 26) k17 28 f17, zVi (a0 24) k18 2 f18, zVi (a0 16) k19 8 f19, zVi (a0 54) k20 1024 s_7.2.2.1, zVl (a0 55) k21 1024 s_7.2.2.2.1, zVi (a0 56) k22 1024 s_7.2.2.2.2] H → va_D A [(h0, .inr (12, zO a0 (zI (zI (zI b0 41 s_5.2.1) 42 s_5.2.2.1) 57 s_5.2.2.2.1) c0)), zVi (a0 12) k1 2 f1, zVi (a0 17) k2 2 f2, zVi (a0 37) k3 14 f3, zVi (a0 39) k4 14 s_5.2.2.2.2.2.2.1, zVi (a0 29) k5 14 f5, zVi (a0 27) k6 28 f6, zVi (a0 19) k7 28 f7, zVi (a0 20) k8 28 f8, zVi (a0 21) k9 28 f9, zVl (a0 31) k10 14 s_5.2.2.2.2.1, zVl (a0 22) k11 28 f11, zVl (a0 23) k12 28 f12, zVl (a0 32) k13 14 s_5.2.2.2.2.2.1, zVi (a0 14) k14 8 f14, zVl (a0 40) k15 14 s_5.2.2.2.2.2.2.2.1, zVi (a0 15) k16 8 f16, zVi (a0 26) k17 28 f17, zVi (a0 24) k18 2 f18, zVi (a0 16) k19 8 f19, zVi (a0 54) k20 1024 s_7.2.2.1, zVl (a0 55) k21 1024 s_7.2.2.2.1, zVi (a0 56) k22 1024 s_7.2.2.2.2] → va_S A s.heap H locs → lv_has ls 5 [(4, .int s_7.2.1), (3, .int s_7.1), (0, .ref h0)] → W p l e (headSpec wsX12_laysFront ({ frames := 5, cells := 0, slots := 0, locals := 134 })).room s m ([.ref h0, .int p1] : List Value).toArray below meth c H locs 0 0 Q (F0 m 54 ls []) := by
          intro n
          induction n with
          | zero => exact fun _ _ _ _ hfn => (zl_0 hfn).elim
          | succ n ih_7 =>
            intro s_7 H locs ls hfn hP hD hS hl
            have hfn := zl_s ebd_7 hfn
            refine lv_iload hx hb dX12_laysFront_54 (lv_at hl 0 rfl) ?_
            refine lv_aload_n hx hb dX12_laysFront_56 rfl (lv_at hl 2 rfl) ?_
            refine va_get (D := (dC, dI)) (ci := 12) (v := .int s_5.2.2.2.1) (C := RX12) (T := TX12) (N := 67) hx hb hts zn_X12_laysFront_X12 hown hK hP 0 rfl rfl 57 (of_decide_eq_true rfl) (hts (.fieldLink RX12 186 "ShortEnoughModel" "fronts" "I") zw_X12_laysFront_1299) (fun _ h9 => h9) rfl dX12_laysFront_57 ?_
            refine lv_icmp_ge (tgt := 137) hx hb dX12_laysFront_60 (of_decide_eq_true rfl) (fun c_8 => ?_) (fun c_8 => ?_)
            · have hfn := (if_pos c_8).symm.trans hfn
              refine lv_aload_n hx hb dX12_laysFront_137 rfl (lv_at hl 2 rfl) ?_
              refine lv_iload_n hx hb dX12_laysFront_138 rfl (lv_at hl 1 rfl) ?_
              refine va_put (D := (dC, dI)) (ci := 12) (v := .int s_7.1) (ty := .int) (C := RX12) (T := TX12) (N := 67) hx hb hts zn_X12_laysFront_X12 tyX12 tyX12_ok nmX12 hown hK hP hD hS 0 rfl rfl 57 (of_decide_eq_true rfl) (hts (.fieldLink RX12 186 "ShortEnoughModel" "fronts" "I") zw_X12_laysFront_1299) (fun _ h9 => h9) rfl (tyX12_ok 57 (of_decide_eq_true rfl)) rfl rfl (Nat.le_of_ble_eq_true rfl) dX12_laysFront_139 (fun H locs hP hD hS => ?_)
              have hP : va_P (dC, dI) vwCl [(h0, .inr (12, zO a0 (zI (zI (zI b0 41 s_5.2.1) 42 s_5.2.2.1) 57 s_7.1) c0)), zVi (a0 12) k1 2 f1, zVi (a0 17) k2 2 f2, zVi (a0 37) k3 14 f3, zVi (a0 39) k4 14 s_5.2.2.2.2.2.2.1, zVi (a0 29) k5 14 f5, zVi (a0 27) k6 28 f6, zVi (a0 19) k7 28 f7, zVi (a0 20) k8 28 f8, zVi (a0 21) k9 28 f9, zVl (a0 31) k10 14 s_5.2.2.2.2.1, zVl (a0 22) k11 28 f11, zVl (a0 23) k12 28 f12, zVl (a0 32) k13 14 s_5.2.2.2.2.2.1, zVi (a0 14) k14 8 f14, zVl (a0 40) k15 14 s_5.2.2.2.2.2.2.2.1, zVi (a0 15) k16 8 f16, zVi (a0 26) k17 28 f17, zVi (a0 24) k18 2 f18, zVi (a0 16) k19 8 f19, zVi (a0 54) k20 1024 s_7.2.2.1, zVl (a0 55) k21 1024 s_7.2.2.2.1, zVi (a0 56) k22 1024 s_7.2.2.2.2] H := hP
              have hD := zDW hD hP rfl
              have ho := Option.some.inj hfn
              subst ho
              exact zrv hx hb hr hK hP hD hS hQ trivial hlocks dX12_laysFront_142
            have hfn := (if_neg c_8).symm.trans hfn
            refine lv_iload_n hx hb dX12_laysFront_63 rfl (lv_at hl 1 rfl) ?_
            obtain ⟨j_9, ej_9, hfn⟩ := zj_g hfn
            have jp_9 : ∀ (s_9 : Unit) (H : Heap) (locs : List Loc) (ls : Array Slot), j_9 s_9 = some o → va_P (dC, dI) vwCl [(h0, .inr (12, zO a0 (zI (zI (zI b0 41 s_5.2.1) 42 s_5.2.2.1) 57 s_5.2.2.2.1) c0)), zVi (a0 12) k1 2 f1, zVi (a0 17) k2 2 f2, zVi (a0 37) k3 14 f3, zVi (a0 39) k4 14 s_5.2.2.2.2.2.2.1, zVi (a0 29) k5 14 f5, zVi (a0 27) k6 28 f6, zVi (a0 19) k7 28 f7, zVi (a0 20) k8 28 f8, zVi (a0 21) k9 28 f9, zVl (a0 31) k10 14 s_5.2.2.2.2.1, zVl (a0 22) k11 28 f11, zVl (a0 23) k12 28 f12, zVl (a0 32) k13 14 s_5.2.2.2.2.2.1, zVi (a0 14) k14 8 f14, zVl (a0 40) k15 14 s_5.2.2.2.2.2.2.2.1, zVi (a0 15) k16 8 f16, zVi (a0 26) k17 28 f17, zVi (a0 24) k18 2 f18, zVi (a0 16) k19 8 f19, zVi (a0 54) k20 1024 s_7.2.2.1, zVl (a0 55) k21 1024 s_7.2.2.2.1, zVi (a0 56) k22 1024 s_7.2.2.2.2] H → va_D A [(h0, .inr (12, zO a0 (zI (zI (zI b0 41 s_5.2.1) 42 s_5.2.2.1) 57 s_5.2.2.2.1) c0)), zVi (a0 12) k1 2 f1, zVi (a0 17) k2 2 f2, zVi (a0 37) k3 14 f3, zVi (a0 39) k4 14 s_5.2.2.2.2.2.2.1, zVi (a0 29) k5 14 f5, zVi (a0 27) k6 28 f6, zVi (a0 19) k7 28 f7, zVi (a0 20) k8 28 f8, zVi (a0 21) k9 28 f9, zVl (a0 31) k10 14 s_5.2.2.2.2.1, zVl (a0 22) k11 28 f11, zVl (a0 23) k12 28 f12, zVl (a0 32) k13 14 s_5.2.2.2.2.2.1, zVi (a0 14) k14 8 f14, zVl (a0 40) k15 14 s_5.2.2.2.2.2.2.2.1, zVi (a0 15) k16 8 f16, zVi (a0 26) k17 28 f17, zVi (a0 24) k18 2 f18, zVi (a0 16) k19 8 f19, zVi (a0 54) k20 1024 s_7.2.2.1, zVl (a0 55) k21 1024 s_7.2.2.2.1, zVi (a0 56) k22 1024 s_7.2.2.2.2] → va_S A s.heap H locs → lv_has ls 5 [(4, .int s_7.2.1), (3, .int s_7.1), (0, .ref h0)] → W p l e (headSpec wsX12_laysFront ({ frames := 5, cells := 0, slots := 0, locals := 134 })).room s m ([.ref h0, .int p1] : List Value).toArray below meth c H locs 0 0 Q (F0 m 89 ls []) := by
              intro s_9 H locs ls hfn hP hD hS hl
              have hfn := zj_s ej_9 hfn
              refine lv_aload_n hx hb dX12_laysFront_89 rfl (lv_at hl 2 rfl) ?_
              refine va_get (D := (dC, dI)) (ci := 12) (v := .ref (a0 54)) (C := RX12) (T := TX12) (N := 67) hx hb hts zn_X12_laysFront_X12 hown hK hP 0 rfl rfl 54 (of_decide_eq_true rfl) (hts (.fieldLink RX12 177 "ShortEnoughModel" "frontCost" "[I") zw_X12_laysFront_1301) (fun _ h9 => h9) rfl dX12_laysFront_90 ?_
              refine lv_iload_n hx hb dX12_laysFront_93 rfl (lv_at hl 1 rfl) ?_
              refine lv_aload_n hx hb dX12_laysFront_94 rfl (lv_at hl 2 rfl) ?_
              refine va_get (D := (dC, dI)) (ci := 12) (v := .ref (a0 54)) (C := RX12) (T := TX12) (N := 67) hx hb hts zn_X12_laysFront_X12 hown hK hP 0 rfl rfl 54 (of_decide_eq_true rfl) (hts (.fieldLink RX12 177 "ShortEnoughModel" "frontCost" "[I") zw_X12_laysFront_1301) (fun _ h9 => h9) rfl dX12_laysFront_95 ?_
              refine lv_iload hx hb dX12_laysFront_98 (lv_at hl 0 rfl) ?_
              obtain ⟨h_10, hfn⟩ := zg_s hfn
              refine va_iald hx hb hK hP 20 19 rfl rfl h_10 dX12_laysFront_100 ?_
              obtain ⟨h_11, hfn⟩ := zg_s hfn
              refine va_iast hx hb hK hP hD hS 20 19 rfl rfl h_11 dX12_laysFront_101 (fun H locs hP hD hS => ?_)
              obtain ⟨g_12, eg_12⟩ : ∃ g : Nat → Int32, g = (upd s_7.2.2.1 s_7.1.toNatClampNeg (s_7.2.2.1 s_7.2.1.toNatClampNeg)) := ⟨_, rfl⟩
              have hfn := zn_s hfn eg_12
              have hP : va_P (dC, dI) vwCl [(h0, .inr (12, zO a0 (zI (zI (zI b0 41 s_5.2.1) 42 s_5.2.2.1) 57 s_5.2.2.2.1) c0)), zVi (a0 12) k1 2 f1, zVi (a0 17) k2 2 f2, zVi (a0 37) k3 14 f3, zVi (a0 39) k4 14 s_5.2.2.2.2.2.2.1, zVi (a0 29) k5 14 f5, zVi (a0 27) k6 28 f6, zVi (a0 19) k7 28 f7, zVi (a0 20) k8 28 f8, zVi (a0 21) k9 28 f9, zVl (a0 31) k10 14 s_5.2.2.2.2.1, zVl (a0 22) k11 28 f11, zVl (a0 23) k12 28 f12, zVl (a0 32) k13 14 s_5.2.2.2.2.2.1, zVi (a0 14) k14 8 f14, zVl (a0 40) k15 14 s_5.2.2.2.2.2.2.2.1, zVi (a0 15) k16 8 f16, zVi (a0 26) k17 28 f17, zVi (a0 24) k18 2 f18, zVi (a0 16) k19 8 f19, zVi (a0 54) k20 1024 g_12, zVl (a0 55) k21 1024 s_7.2.2.2.1, zVi (a0 56) k22 1024 s_7.2.2.2.2] H := by rw [eg_12]; exact hP
              have hD : va_D A [(h0, .inr (12, zO a0 (zI (zI (zI b0 41 s_5.2.1) 42 s_5.2.2.1) 57 s_5.2.2.2.1) c0)), zVi (a0 12) k1 2 f1, zVi (a0 17) k2 2 f2, zVi (a0 37) k3 14 f3, zVi (a0 39) k4 14 s_5.2.2.2.2.2.2.1, zVi (a0 29) k5 14 f5, zVi (a0 27) k6 28 f6, zVi (a0 19) k7 28 f7, zVi (a0 20) k8 28 f8, zVi (a0 21) k9 28 f9, zVl (a0 31) k10 14 s_5.2.2.2.2.1, zVl (a0 22) k11 28 f11, zVl (a0 23) k12 28 f12, zVl (a0 32) k13 14 s_5.2.2.2.2.2.1, zVi (a0 14) k14 8 f14, zVl (a0 40) k15 14 s_5.2.2.2.2.2.2.2.1, zVi (a0 15) k16 8 f16, zVi (a0 26) k17 28 f17, zVi (a0 24) k18 2 f18, zVi (a0 16) k19 8 f19, zVi (a0 54) k20 1024 g_12, zVl (a0 55) k21 1024 s_7.2.2.2.1, zVi (a0 56) k22 1024 s_7.2.2.2.2] := by rw [eg_12]; exact hD
              refine lv_aload_n hx hb dX12_laysFront_102 rfl (lv_at hl 2 rfl) ?_
              refine va_get (D := (dC, dI)) (ci := 12) (v := .ref (a0 55)) (C := RX12) (T := TX12) (N := 67) hx hb hts zn_X12_laysFront_X12 hown hK hP 0 rfl rfl 55 (of_decide_eq_true rfl) (hts (.fieldLink RX12 180 "ShortEnoughModel" "frontError" "[J") zw_X12_laysFront_1302) (fun _ h9 => h9) rfl dX12_laysFront_103 ?_
              refine lv_iload_n hx hb dX12_laysFront_106 rfl (lv_at hl 1 rfl) ?_
              refine lv_aload_n hx hb dX12_laysFront_107 rfl (lv_at hl 2 rfl) ?_
              refine va_get (D := (dC, dI)) (ci := 12) (v := .ref (a0 55)) (C := RX12) (T := TX12) (N := 67) hx hb hts zn_X12_laysFront_X12 hown hK hP 0 rfl rfl 55 (of_decide_eq_true rfl) (hts (.fieldLink RX12 180 "ShortEnoughModel" "frontError" "[J") zw_X12_laysFront_1302) (fun _ h9 => h9) rfl dX12_laysFront_108 ?_
              refine lv_iload hx hb dX12_laysFront_111 (lv_at hl 0 rfl) ?_
              refine va_lald hx hb hK hP 21 20 rfl rfl h_10 dX12_laysFront_113 ?_
              refine va_last hx hb hK hP hD hS 21 20 rfl rfl h_11 dX12_laysFront_114 (fun H locs hP hD hS => ?_)
              obtain ⟨g_13, eg_13⟩ : ∃ g : Nat → Int64, g = (vp_updL s_7.2.2.2.1 s_7.1.toNatClampNeg (s_7.2.2.2.1 s_7.2.1.toNatClampNeg)) := ⟨_, rfl⟩
              have hfn := zn_s hfn eg_13
              have hP : va_P (dC, dI) vwCl [(h0, .inr (12, zO a0 (zI (zI (zI b0 41 s_5.2.1) 42 s_5.2.2.1) 57 s_5.2.2.2.1) c0)), zVi (a0 12) k1 2 f1, zVi (a0 17) k2 2 f2, zVi (a0 37) k3 14 f3, zVi (a0 39) k4 14 s_5.2.2.2.2.2.2.1, zVi (a0 29) k5 14 f5, zVi (a0 27) k6 28 f6, zVi (a0 19) k7 28 f7, zVi (a0 20) k8 28 f8, zVi (a0 21) k9 28 f9, zVl (a0 31) k10 14 s_5.2.2.2.2.1, zVl (a0 22) k11 28 f11, zVl (a0 23) k12 28 f12, zVl (a0 32) k13 14 s_5.2.2.2.2.2.1, zVi (a0 14) k14 8 f14, zVl (a0 40) k15 14 s_5.2.2.2.2.2.2.2.1, zVi (a0 15) k16 8 f16, zVi (a0 26) k17 28 f17, zVi (a0 24) k18 2 f18, zVi (a0 16) k19 8 f19, zVi (a0 54) k20 1024 g_12, zVl (a0 55) k21 1024 g_13, zVi (a0 56) k22 1024 s_7.2.2.2.2] H := by rw [eg_13]; exact hP
              have hD : va_D A [(h0, .inr (12, zO a0 (zI (zI (zI b0 41 s_5.2.1) 42 s_5.2.2.1) 57 s_5.2.2.2.1) c0)), zVi (a0 12) k1 2 f1, zVi (a0 17) k2 2 f2, zVi (a0 37) k3 14 f3, zVi (a0 39) k4 14 s_5.2.2.2.2.2.2.1, zVi (a0 29) k5 14 f5, zVi (a0 27) k6 28 f6, zVi (a0 19) k7 28 f7, zVi (a0 20) k8 28 f8, zVi (a0 21) k9 28 f9, zVl (a0 31) k10 14 s_5.2.2.2.2.1, zVl (a0 22) k11 28 f11, zVl (a0 23) k12 28 f12, zVl (a0 32) k13 14 s_5.2.2.2.2.2.1, zVi (a0 14) k14 8 f14, zVl (a0 40) k15 14 s_5.2.2.2.2.2.2.2.1, zVi (a0 15) k16 8 f16, zVi (a0 26) k17 28 f17, zVi (a0 24) k18 2 f18, zVi (a0 16) k19 8 f19, zVi (a0 54) k20 1024 g_12, zVl (a0 55) k21 1024 g_13, zVi (a0 56) k22 1024 s_7.2.2.2.2] := by rw [eg_13]; exact hD
              refine lv_aload_n hx hb dX12_laysFront_115 rfl (lv_at hl 2 rfl) ?_
              refine va_get (D := (dC, dI)) (ci := 12) (v := .ref (a0 56)) (C := RX12) (T := TX12) (N := 67) hx hb hts zn_X12_laysFront_X12 hown hK hP 0 rfl rfl 56 (of_decide_eq_true rfl) (hts (.fieldLink RX12 183 "ShortEnoughModel" "frontMany" "[I") zw_X12_laysFront_1303) (fun _ h9 => h9) rfl dX12_laysFront_116 ?_
              refine lv_iload_n hx hb dX12_laysFront_119 rfl (lv_at hl 1 rfl) ?_
              refine lv_aload_n hx hb dX12_laysFront_120 rfl (lv_at hl 2 rfl) ?_
              refine va_get (D := (dC, dI)) (ci := 12) (v := .ref (a0 56)) (C := RX12) (T := TX12) (N := 67) hx hb hts zn_X12_laysFront_X12 hown hK hP 0 rfl rfl 56 (of_decide_eq_true rfl) (hts (.fieldLink RX12 183 "ShortEnoughModel" "frontMany" "[I") zw_X12_laysFront_1303) (fun _ h9 => h9) rfl dX12_laysFront_121 ?_
              refine lv_iload hx hb dX12_laysFront_124 (lv_at hl 0 rfl) ?_
              refine va_iald hx hb hK hP 22 21 rfl rfl h_10 dX12_laysFront_126 ?_
              refine va_iast hx hb hK hP hD hS 22 21 rfl rfl h_11 dX12_laysFront_127 (fun H locs hP hD hS => ?_)
              obtain ⟨g_14, eg_14⟩ : ∃ g : Nat → Int32, g = (upd s_7.2.2.2.2 s_7.1.toNatClampNeg (s_7.2.2.2.2 s_7.2.1.toNatClampNeg)) := ⟨_, rfl⟩
              have hfn := zn_s hfn eg_14
              have hP : va_P (dC, dI) vwCl [(h0, .inr (12, zO a0 (zI (zI (zI b0 41 s_5.2.1) 42 s_5.2.2.1) 57 s_5.2.2.2.1) c0)), zVi (a0 12) k1 2 f1, zVi (a0 17) k2 2 f2, zVi (a0 37) k3 14 f3, zVi (a0 39) k4 14 s_5.2.2.2.2.2.2.1, zVi (a0 29) k5 14 f5, zVi (a0 27) k6 28 f6, zVi (a0 19) k7 28 f7, zVi (a0 20) k8 28 f8, zVi (a0 21) k9 28 f9, zVl (a0 31) k10 14 s_5.2.2.2.2.1, zVl (a0 22) k11 28 f11, zVl (a0 23) k12 28 f12, zVl (a0 32) k13 14 s_5.2.2.2.2.2.1, zVi (a0 14) k14 8 f14, zVl (a0 40) k15 14 s_5.2.2.2.2.2.2.2.1, zVi (a0 15) k16 8 f16, zVi (a0 26) k17 28 f17, zVi (a0 24) k18 2 f18, zVi (a0 16) k19 8 f19, zVi (a0 54) k20 1024 g_12, zVl (a0 55) k21 1024 g_13, zVi (a0 56) k22 1024 g_14] H := by rw [eg_14]; exact hP
              have hD : va_D A [(h0, .inr (12, zO a0 (zI (zI (zI b0 41 s_5.2.1) 42 s_5.2.2.1) 57 s_5.2.2.2.1) c0)), zVi (a0 12) k1 2 f1, zVi (a0 17) k2 2 f2, zVi (a0 37) k3 14 f3, zVi (a0 39) k4 14 s_5.2.2.2.2.2.2.1, zVi (a0 29) k5 14 f5, zVi (a0 27) k6 28 f6, zVi (a0 19) k7 28 f7, zVi (a0 20) k8 28 f8, zVi (a0 21) k9 28 f9, zVl (a0 31) k10 14 s_5.2.2.2.2.1, zVl (a0 22) k11 28 f11, zVl (a0 23) k12 28 f12, zVl (a0 32) k13 14 s_5.2.2.2.2.2.1, zVi (a0 14) k14 8 f14, zVl (a0 40) k15 14 s_5.2.2.2.2.2.2.2.1, zVi (a0 15) k16 8 f16, zVi (a0 26) k17 28 f17, zVi (a0 24) k18 2 f18, zVi (a0 16) k19 8 f19, zVi (a0 54) k20 1024 g_12, zVl (a0 55) k21 1024 g_13, zVi (a0 56) k22 1024 g_14] := by rw [eg_14]; exact hD
              refine lv_iinc (v := (s_7.1 + 1)) (lv' := [(3, .int (s_7.1 + 1)), (4, .int s_7.2.1), (0, .ref h0)]) hx hb dX12_laysFront_128 hl (k := 1) rfl rfl (of_decide_eq_true rfl) rfl (fun ls hl => ?_)
              refine lv_iinc (v := (s_7.2.1 + 1)) (lv' := [(4, .int (s_7.2.1 + 1)), (3, .int (s_7.1 + 1)), (0, .ref h0)]) hx hb dX12_laysFront_131 hl (k := 1) rfl rfl (of_decide_eq_true rfl) rfl (fun ls hl => ?_)
              refine lv_goto (tgt := 54) hx hb dX12_laysFront_134 (of_decide_eq_true rfl) ?_
              exact ih_7 ((s_7.1 + 1), (s_7.2.1 + 1), g_12, g_13, g_14) H locs ls hfn hP hD hS (lv_sub hl [0, 1, 2] rfl)
            refine lv_if_le (tgt := 89) hx hb dX12_laysFront_64 (of_decide_eq_true rfl) (fun c_15 => ?_) (fun c_15 => ?_)
            · have hfn := (if_pos c_15).symm.trans hfn
              exact jp_9 () H locs ls hfn hP hD hS (lv_sub hl [0, 1, 2] rfl)
            have hfn := (if_neg c_15).symm.trans hfn
            refine lv_aload_n hx hb dX12_laysFront_67 rfl (lv_at hl 2 rfl) ?_
            refine va_get (D := (dC, dI)) (ci := 12) (v := .ref (a0 55)) (C := RX12) (T := TX12) (N := 67) hx hb hts zn_X12_laysFront_X12 hown hK hP 0 rfl rfl 55 (of_decide_eq_true rfl) (hts (.fieldLink RX12 180 "ShortEnoughModel" "frontError" "[J") zw_X12_laysFront_1302) (fun _ h9 => h9) rfl dX12_laysFront_68 ?_
            refine lv_iload hx hb dX12_laysFront_71 (lv_at hl 0 rfl) ?_
            obtain ⟨h_16, hfn⟩ := zg_s hfn
            refine va_lald hx hb hK hP 21 20 rfl rfl h_16 dX12_laysFront_73 ?_
            refine lv_aload_n hx hb dX12_laysFront_74 rfl (lv_at hl 2 rfl) ?_
            refine va_get (D := (dC, dI)) (ci := 12) (v := .ref (a0 55)) (C := RX12) (T := TX12) (N := 67) hx hb hts zn_X12_laysFront_X12 hown hK hP 0 rfl rfl 55 (of_decide_eq_true rfl) (hts (.fieldLink RX12 180 "ShortEnoughModel" "frontError" "[J") zw_X12_laysFront_1302) (fun _ h9 => h9) rfl dX12_laysFront_75 ?_
            refine lv_iload_n hx hb dX12_laysFront_78 rfl (lv_at hl 1 rfl) ?_
            refine lv_iconst (v := 1) hx hb dX12_laysFront_79 zci_1 ?_
            refine lv_isub hx hb dX12_laysFront_80 ?_
            obtain ⟨h_17, hfn⟩ := zg_s hfn
            refine va_lald hx hb hK hP 21 20 rfl rfl h_17 dX12_laysFront_81 ?_
            refine W.lcmp hx hb dX12_laysFront_82 ?_
            refine lv_if_lt (tgt := 89) hx hb dX12_laysFront_83 (of_decide_eq_true rfl) (fun c_18 => ?_) (fun c_18 => ?_)
            · have hfn := (if_pos c_18).symm.trans hfn
              exact jp_9 () H locs ls hfn hP hD hS (lv_sub hl [0, 1, 2] rfl)
            have hfn := (if_neg c_18).symm.trans hfn
            refine lv_goto (tgt := 131) hx hb dX12_laysFront_86 (of_decide_eq_true rfl) ?_
            refine lv_iinc (v := (s_7.2.1 + 1)) (lv' := [(4, .int (s_7.2.1 + 1)), (3, .int s_7.1), (0, .ref h0)]) hx hb dX12_laysFront_131 hl (k := 0) rfl rfl (of_decide_eq_true rfl) rfl (fun ls hl => ?_)
            refine lv_goto (tgt := 54) hx hb dX12_laysFront_134 (of_decide_eq_true rfl) ?_
            exact ih_7 (s_7.1, (s_7.2.1 + 1), s_7.2.2.1, s_7.2.2.2.1, s_7.2.2.2.2) H locs ls hfn hP hD hS (lv_sub hl [0, 1, 2] rfl)
        exact lp_7 _ (0, 0, s_5.2.2.2.2.2.2.2.2.1, s_5.2.2.2.2.2.2.2.2.2.1, s_5.2.2.2.2.2.2.2.2.2.2) H locs ls hfn hP hD hS (lv_sub hl [0, 1, 3] rfl)
      have hfn := (if_neg c_6).symm.trans hfn
      refine lv_aload_n hx hb dX12_laysFront_17 rfl (lv_at hl 2 rfl) ?_
      refine lv_iload_n hx hb dX12_laysFront_18 rfl (lv_at hl 0 rfl) ?_
      obtain ⟨o_19, hqo_19, hfn⟩ := zb_s hfn
      refine zcVv (ci := 12) (rest := []) (pc' := 22) (ws' := [(h0, .inr (12, zO a0 (zI (zI (zI b0 41 s_5.2.1) 42 s_5.2.2.1) 57 s_5.2.2.2.1) c0)), zVi (a0 12) k1 2 f1, zVi (a0 17) k2 2 f2, zVi (a0 37) k3 14 f3, zVi (a0 39) k4 14 o_19, zVi (a0 29) k5 14 f5, zVi (a0 27) k6 28 f6, zVi (a0 19) k7 28 f7, zVi (a0 20) k8 28 f8, zVi (a0 21) k9 28 f9, zVl (a0 31) k10 14 s_5.2.2.2.2.1, zVl (a0 22) k11 28 f11, zVl (a0 23) k12 28 f12, zVl (a0 32) k13 14 s_5.2.2.2.2.2.1, zVi (a0 14) k14 8 f14, zVl (a0 40) k15 14 s_5.2.2.2.2.2.2.2.1, zVi (a0 15) k16 8 f16, zVi (a0 26) k17 28 f17, zVi (a0 24) k18 2 f18, zVi (a0 16) k19 8 f19, zVi (a0 54) k20 1024 s_5.2.2.2.2.2.2.2.2.1, zVl (a0 55) k21 1024 s_5.2.2.2.2.2.2.2.2.2.1, zVi (a0 56) k22 1024 s_5.2.2.2.2.2.2.2.2.2.2]) hP hK hD hS hA ⟨hx, hb, hml, hown, hts⟩ (zf_X12_triesChoice l dC dI h0 s_5.1 a0 (zI (zI (zI b0 41 s_5.2.1) 42 s_5.2.2.1) 57 s_5.2.2.2.1) c0 k2 f2 k3 f3 k4 s_5.2.2.2.2.2.2.1 k5 f5 k1 f1 k6 f6 o_19 hqo_19 H.size) (cwV 1 hts gX12_laysFront_X12_triesChoice rfl rfl rfl zhd_X12_triesChoice ⟨Nat.le_of_ble_eq_true rfl, Nat.le_of_ble_eq_true rfl⟩) [0, 2, 3, 4, 5, 1, 6] rfl (of_decide_eq_true rfl) [1, 2, 3, 4, 0, 5] rfl rfl rfl rfl hl.1 rfl (Nat.le_of_ble_eq_true rfl) dX12_laysFront_19 ⟨Nat.le_of_ble_eq_true rfl, Nat.le_of_ble_eq_true rfl⟩ [some 0, some 5, some 1, some 2, some 3, some 4, some 6] (of_decide_eq_true rfl) (of_decide_eq_true rfl) rfl rfl rfl (fun H locs hP hD hS => ?_)
      refine lv_aload_n hx hb dX12_laysFront_22 rfl (lv_at hl 2 rfl) ?_
      obtain ⟨o_23, hqo_23, hfn⟩ := zb_s hfn
      refine zcVb (ci := 12) (rest := []) (pc' := 26) (ws' := [(h0, .inr (12, zO a0 (zI (zI (zI b0 41 o_23.2.1) 42 o_23.2.2.1) 57 s_5.2.2.2.1) c0)), zVi (a0 12) k1 2 f1, zVi (a0 17) k2 2 f2, zVi (a0 37) k3 14 f3, zVi (a0 39) k4 14 o_19, zVi (a0 29) k5 14 f5, zVi (a0 27) k6 28 f6, zVi (a0 19) k7 28 f7, zVi (a0 20) k8 28 f8, zVi (a0 21) k9 28 f9, zVl (a0 31) k10 14 o_23.2.2.2.1, zVl (a0 22) k11 28 f11, zVl (a0 23) k12 28 f12, zVl (a0 32) k13 14 o_23.2.2.2.2.1, zVi (a0 14) k14 8 f14, zVl (a0 40) k15 14 o_23.2.2.2.2.2, zVi (a0 15) k16 8 f16, zVi (a0 26) k17 28 f17, zVi (a0 24) k18 2 f18, zVi (a0 16) k19 8 f19, zVi (a0 54) k20 1024 s_5.2.2.2.2.2.2.2.2.1, zVl (a0 55) k21 1024 s_5.2.2.2.2.2.2.2.2.2.1, zVi (a0 56) k22 1024 s_5.2.2.2.2.2.2.2.2.2.2]) hP hK hD hS hA ⟨hx, hb, hml, hown, hts⟩ (zf_X12_passes l dC dI h0 a0 (zI (zI (zI b0 41 s_5.2.1) 42 s_5.2.2.1) 57 s_5.2.2.2.1) c0 k2 f2 k7 f7 k8 f8 k9 f9 k10 s_5.2.2.2.2.1 k11 f11 k12 f12 k13 s_5.2.2.2.2.2.1 k4 o_19 k14 f14 k15 s_5.2.2.2.2.2.2.2.1 k16 f16 k17 f17 o_23 hqo_23 H.size) (cwV 0 hts gX12_laysFront_X12_passes rfl rfl rfl zhd_X12_passes ⟨Nat.le_of_ble_eq_true rfl, Nat.le_of_ble_eq_true rfl⟩) [0, 2, 7, 8, 9, 10, 11, 12, 13, 4, 14, 15, 16, 17] rfl (of_decide_eq_true rfl) [1, 6, 7, 8, 9, 10, 11, 12, 3, 13, 14, 15, 16] rfl rfl rfl rfl hl.1 rfl (Nat.le_of_ble_eq_true rfl) dX12_laysFront_23 ⟨Nat.le_of_ble_eq_true rfl, Nat.le_of_ble_eq_true rfl⟩ [some 0, none, some 1, none, some 9, none, none, some 2, some 3, some 4, some 5, some 6, some 7, some 8, some 10, some 11, some 12, some 13] (of_decide_eq_true rfl) (of_decide_eq_true rfl) rfl rfl rfl (fun H locs hw_26n hP hD hS => ?_)
      refine lv_if_eq (tgt := 43) hx hb dX12_laysFront_26 (of_decide_eq_true rfl) (fun c_27 => ?_) (fun c_27 => ?_)
      · have hfn := (if_pos c_27).symm.trans hfn
        refine lv_iinc (v := (s_5.1 + 1)) (lv' := [(3, .int (s_5.1 + 1)), (2, .int o_1), (0, .ref h0), (1, .int p1)]) hx hb dX12_laysFront_43 hl (k := 0) rfl rfl (of_decide_eq_true rfl) rfl (fun ls hl => ?_)
        refine lv_goto (tgt := 12) hx hb dX12_laysFront_46 (of_decide_eq_true rfl) ?_
        exact ih_5 ((s_5.1 + 1), o_23.2.1, o_23.2.2.1, s_5.2.2.2.1, o_23.2.2.2.1, o_23.2.2.2.2.1, o_19, o_23.2.2.2.2.2, s_5.2.2.2.2.2.2.2.2.1, s_5.2.2.2.2.2.2.2.2.2.1, s_5.2.2.2.2.2.2.2.2.2.2) H locs ls hfn hP hD hS (lv_sub hl [0, 1, 2, 3] rfl)
      have hfn := (if_neg c_27).symm.trans hfn
      refine lv_aload_n hx hb dX12_laysFront_29 rfl (lv_at hl 2 rfl) ?_
      refine lv_aload_n hx hb dX12_laysFront_30 rfl (lv_at hl 2 rfl) ?_
      obtain ⟨o_28, hqo_28, hfn⟩ := zb_s hfn
      refine zcVi (ci := 12) (rest := [.ref h0]) (pc' := 34) (ws' := [(h0, .inr (12, zO a0 (zI (zI (zI b0 41 o_23.2.1) 42 o_23.2.2.1) 57 s_5.2.2.2.1) c0)), zVi (a0 12) k1 2 f1, zVi (a0 17) k2 2 f2, zVi (a0 37) k3 14 f3, zVi (a0 39) k4 14 o_19, zVi (a0 29) k5 14 f5, zVi (a0 27) k6 28 f6, zVi (a0 19) k7 28 f7, zVi (a0 20) k8 28 f8, zVi (a0 21) k9 28 f9, zVl (a0 31) k10 14 o_23.2.2.2.1, zVl (a0 22) k11 28 f11, zVl (a0 23) k12 28 f12, zVl (a0 32) k13 14 o_23.2.2.2.2.1, zVi (a0 14) k14 8 f14, zVl (a0 40) k15 14 o_23.2.2.2.2.2, zVi (a0 15) k16 8 f16, zVi (a0 26) k17 28 f17, zVi (a0 24) k18 2 f18, zVi (a0 16) k19 8 f19, zVi (a0 54) k20 1024 s_5.2.2.2.2.2.2.2.2.1, zVl (a0 55) k21 1024 s_5.2.2.2.2.2.2.2.2.2.1, zVi (a0 56) k22 1024 s_5.2.2.2.2.2.2.2.2.2.2]) hP hK hD hS hA ⟨hx, hb, hml, hown, hts⟩ (zf_X12_costTried l dC dI h0 a0 (zI (zI (zI b0 41 o_23.2.1) 42 o_23.2.2.1) 57 s_5.2.2.2.1) c0 k18 f18 k2 f2 k8 f8 k4 o_19 k9 f9 k19 f19 o_28 hqo_28 H.size) (cwV 0 hts gX12_laysFront_X12_costTried rfl rfl rfl zhd_X12_costTried ⟨Nat.le_of_ble_eq_true rfl, Nat.le_of_ble_eq_true rfl⟩) [0, 18, 2, 8, 4, 9, 19] rfl (of_decide_eq_true rfl) [17, 1, 7, 3, 8, 18] rfl rfl rfl rfl hl.1 rfl (Nat.le_of_ble_eq_true rfl) dX12_laysFront_31 ⟨Nat.le_of_ble_eq_true rfl, Nat.le_of_ble_eq_true rfl⟩ [some 0, none, some 2, none, some 4, none, none, none, some 3, some 5, none, none, none, none, none, none, none, none, some 1, some 6] (of_decide_eq_true rfl) (of_decide_eq_true rfl) rfl rfl rfl (fun H locs hP hD hS => ?_)
      refine lv_aload_n hx hb dX12_laysFront_34 rfl (lv_at hl 2 rfl) ?_
      refine va_get (D := (dC, dI)) (ci := 12) (v := .ref (a0 40)) (C := RX12) (T := TX12) (N := 67) hx hb hts zn_X12_laysFront_X12 hown hK hP 0 rfl rfl 40 (of_decide_eq_true rfl) (hts (.fieldLink RX12 135 "ShortEnoughModel" "error" "[J") zw_X12_laysFront_1300) (fun _ h9 => h9) rfl dX12_laysFront_35 ?_
      refine lv_iload_n hx hb dX12_laysFront_38 rfl (lv_at hl 3 rfl) ?_
      obtain ⟨h_32, hfn⟩ := zg_s hfn
      refine va_lald hx hb hK hP 15 14 rfl rfl h_32 dX12_laysFront_39 ?_
      obtain ⟨o_33, hqo_33, hfn⟩ := zb_s hfn
      refine zcVv (ci := 12) (rest := []) (pc' := 43) (ws' := [(h0, .inr (12, zO a0 (zI (zI (zI b0 41 o_23.2.1) 42 o_23.2.2.1) 57 o_33.1) c0)), zVi (a0 12) k1 2 f1, zVi (a0 17) k2 2 f2, zVi (a0 37) k3 14 f3, zVi (a0 39) k4 14 o_19, zVi (a0 29) k5 14 f5, zVi (a0 27) k6 28 f6, zVi (a0 19) k7 28 f7, zVi (a0 20) k8 28 f8, zVi (a0 21) k9 28 f9, zVl (a0 31) k10 14 o_23.2.2.2.1, zVl (a0 22) k11 28 f11, zVl (a0 23) k12 28 f12, zVl (a0 32) k13 14 o_23.2.2.2.2.1, zVi (a0 14) k14 8 f14, zVl (a0 40) k15 14 o_23.2.2.2.2.2, zVi (a0 15) k16 8 f16, zVi (a0 26) k17 28 f17, zVi (a0 24) k18 2 f18, zVi (a0 16) k19 8 f19, zVi (a0 54) k20 1024 o_33.2.1, zVl (a0 55) k21 1024 o_33.2.2.1, zVi (a0 56) k22 1024 o_33.2.2.2]) hP hK hD hS hA ⟨hx, hb, hml, hown, hts⟩ (zf_X12_laysCouple l dC dI h0 o_28 (o_23.2.2.2.2.2 p1.toNatClampNeg) a0 (zI (zI (zI b0 41 o_23.2.1) 42 o_23.2.2.1) 57 s_5.2.2.2.1) c0 k20 s_5.2.2.2.2.2.2.2.2.1 k21 s_5.2.2.2.2.2.2.2.2.2.1 k22 s_5.2.2.2.2.2.2.2.2.2.2 o_33 hqo_33 H.size) (cwV 2 hts gX12_laysFront_X12_laysCouple rfl rfl rfl zhd_X12_laysCouple ⟨Nat.le_of_ble_eq_true rfl, Nat.le_of_ble_eq_true rfl⟩) [0, 20, 21, 22] rfl (of_decide_eq_true rfl) [19, 20, 21] rfl rfl rfl rfl hl.1 rfl (Nat.le_of_ble_eq_true rfl) dX12_laysFront_40 ⟨Nat.le_of_ble_eq_true rfl, Nat.le_of_ble_eq_true rfl⟩ [some 0, none, none, none, none, none, none, none, none, none, none, none, none, none, none, none, none, none, none, none, some 1, some 2, some 3] (of_decide_eq_true rfl) (of_decide_eq_true rfl) rfl rfl rfl (fun H locs hP hD hS => ?_)
      refine lv_iinc (v := (s_5.1 + 1)) (lv' := [(3, .int (s_5.1 + 1)), (2, .int o_1), (0, .ref h0), (1, .int p1)]) hx hb dX12_laysFront_43 hl (k := 0) rfl rfl (of_decide_eq_true rfl) rfl (fun ls hl => ?_)
      refine lv_goto (tgt := 12) hx hb dX12_laysFront_46 (of_decide_eq_true rfl) ?_
      exact ih_5 ((s_5.1 + 1), o_23.2.1, o_23.2.2.1, o_33.1, o_23.2.2.2.1, o_23.2.2.2.2.1, o_19, o_23.2.2.2.2.2, o_33.2.1, o_33.2.2.1, o_33.2.2.2) H locs ls hfn hP hD hS (lv_sub hl [0, 1, 2, 3] rfl)
  exact lp_5 _ (0, (b0 41), (b0 42), 0, f10, f13, f4, f15, f20, f21, f22) H locs ls hfn hP hD hS (lv_sub hl [0, 1, 2, 3] rfl)
theorem zw_X12_front_1304 : Cond.constantLong RX12 381 (-1000000000000000) ∈ wsX12_front := List.mem_of_getElem? (i := 2) (by decide +kernel)
theorem zw_X12_front_1305 : Cond.constantLong RX12 383 (2) ∈ wsX12_front := List.mem_of_getElem? (i := 1) (by decide +kernel)
theorem zn_X12_front_X12 : ∀ w ∈ wsX120, w ∈ wsX12_front := fun _ h => List.mem_cons_of_mem _ (List.mem_append_right _ h)
theorem zw_X12_front_1307 : Cond.fieldLink RX12 186 "ShortEnoughModel" "fronts" "I" ∈ wsX12_front := List.mem_of_getElem? (i := 3) (by decide +kernel)
theorem zw_X12_front_1308 : Cond.fieldLink RX12 183 "ShortEnoughModel" "frontMany" "[I" ∈ wsX12_front := List.mem_of_getElem? (i := 6) (by decide +kernel)
theorem zw_X12_front_1309 : Cond.fieldLink RX12 180 "ShortEnoughModel" "frontError" "[J" ∈ wsX12_front := List.mem_of_getElem? (i := 5) (by decide +kernel)
theorem zw_X12_front_1310 : Cond.fieldLink RX12 177 "ShortEnoughModel" "frontCost" "[I" ∈ wsX12_front := List.mem_of_getElem? (i := 4) (by decide +kernel)
set_option maxHeartbeats 4000000 in
set_option maxRecDepth 100000 in
theorem zf_X12_front (l : Launch) (dC : Nat → ClassId) (dI : Nat → Nat → Nat) (h0 : Nat) (p1 : Int32) (p2 : Int32) (p3 : Int32) (a0 : Nat → Nat) (b0 : Nat → Int32) (c0 : Nat → Int64) (k1 : Nat) (f1 : Nat → Int32) (k2 : Nat) (f2 : Nat → Int32) (k3 : Nat) (f3 : Nat → Int32) (k4 : Nat) (f4 : Nat → Int32) (k5 : Nat) (f5 : Nat → Int32) (k6 : Nat) (f6 : Nat → Int32) (k7 : Nat) (f7 : Nat → Int32) (k8 : Nat) (f8 : Nat → Int32) (k9 : Nat) (f9 : Nat → Int32) (k10 : Nat) (f10 : Nat → Int32) (k11 : Nat) (f11 : Nat → Int32) (k12 : Nat) (f12 : Nat → Int64) (k13 : Nat) (f13 : Nat → Int64) (k14 : Nat) (f14 : Nat → Int64) (k15 : Nat) (f15 : Nat → Int64) (k16 : Nat) (f16 : Nat → Int32) (k17 : Nat) (f17 : Nat → Int64) (k18 : Nat) (f18 : Nat → Int32) (k19 : Nat) (f19 : Nat → Int32) (k20 : Nat) (f20 : Nat → Int32) (k21 : Nat) (f21 : Nat → Int32) (k22 : Nat) (f22 : Nat → Int64) (k23 : Nat) (f23 : Nat → Int32) (o : Int64 × Int32 × Int32 × Int32 × Int32 × Int32 × (Nat → Int32) × (Nat → Int32) × (Nat → Int64) × (Nat → Int64) × (Nat → Int64) × (Nat → Int32) × (Nat → Int64) × (Nat → Int32)) (hfn : fn_X12_front p1 p2 p3 (b0 30) (b0 33) (c0 34) (b0 38) (b0 41) (b0 42) (b0 57) f1 f2 f3 f4 f5 f6 f7 f8 f9 f10 f11 f12 f13 f14 f15 f16 f17 f18 f19 f20 f21 f22 f23 = some o) (sz : Nat) : zMl l yX12_front wsX12_front ({ frames := 6, cells := 0, slots := 0, locals := 158 }) (dC, dI) vwCl [.ref h0, .int p1, .int p2, .int p3] [(h0, .inr (12, zO a0 b0 c0)), zVi (a0 17) k1 2 f1, zVi (a0 26) k2 28 f2, zVi (a0 27) k3 28 f3, zVi (a0 25) k4 28 f4, zVi (a0 29) k5 14 f5, zVi (a0 12) k6 2 f6, zVi (a0 37) k7 14 f7, zVi (a0 39) k8 14 f8, zVi (a0 19) k9 28 f9, zVi (a0 20) k10 28 f10, zVi (a0 21) k11 28 f11, zVl (a0 31) k12 14 f12, zVl (a0 22) k13 28 f13, zVl (a0 23) k14 28 f14, zVl (a0 32) k15 14 f15, zVi (a0 14) k16 8 f16, zVl (a0 40) k17 14 f17, zVi (a0 15) k18 8 f18, zVi (a0 24) k19 2 f19, zVi (a0 16) k20 8 f20, zVi (a0 54) k21 1024 f21, zVl (a0 55) k22 1024 f22, zVi (a0 56) k23 1024 f23] [(k1, .int), (k2, .int), (k3, .int), (k4, .int), (k5, .int), (k6, .int), (k7, .int), (k8, .int), (k9, .int), (k10, .int), (k11, .int), (k12, .long), (k13, .long), (k14, .long), (k15, .long), (k16, .int), (k17, .long), (k18, .int), (k19, .int), (k20, .int), (k21, .int), (k22, .long), (k23, .int)] (fun r _ => r = o.1) [(h0, .inr (12, zO a0 (zI (zI (zI (zI (zI b0 30 o.2.1) 33 o.2.2.1) 41 o.2.2.2.1) 42 o.2.2.2.2.1) 57 o.2.2.2.2.2.1) c0)), zVi (a0 17) k1 2 f1, zVi (a0 26) k2 28 f2, zVi (a0 27) k3 28 f3, zVi (a0 25) k4 28 f4, zVi (a0 29) k5 14 o.2.2.2.2.2.2.1, zVi (a0 12) k6 2 f6, zVi (a0 37) k7 14 f7, zVi (a0 39) k8 14 o.2.2.2.2.2.2.2.1, zVi (a0 19) k9 28 f9, zVi (a0 20) k10 28 f10, zVi (a0 21) k11 28 f11, zVl (a0 31) k12 14 o.2.2.2.2.2.2.2.2.1, zVl (a0 22) k13 28 f13, zVl (a0 23) k14 28 f14, zVl (a0 32) k15 14 o.2.2.2.2.2.2.2.2.2.1, zVi (a0 14) k16 8 f16, zVl (a0 40) k17 14 o.2.2.2.2.2.2.2.2.2.2.1, zVi (a0 15) k18 8 f18, zVi (a0 24) k19 2 f19, zVi (a0 16) k20 8 f20, zVi (a0 54) k21 1024 o.2.2.2.2.2.2.2.2.2.2.2.1, zVl (a0 55) k22 1024 o.2.2.2.2.2.2.2.2.2.2.2.2.1, zVi (a0 56) k23 1024 o.2.2.2.2.2.2.2.2.2.2.2.2.2] [(k1, .int), (k2, .int), (k3, .int), (k4, .int), (k5, .int), (k6, .int), (k7, .int), (k8, .int), (k9, .int), (k10, .int), (k11, .int), (k12, .long), (k13, .long), (k14, .long), (k15, .long), (k16, .int), (k17, .long), (k18, .int), (k19, .int), (k20, .int), (k21, .int), (k22, .long), (k23, .int)] sz := by
  refine zgol (cc := cX12_front) (maxL := 4) (ret := (some .long)) (C0 := RX12) (lv0 := [(0, .ref h0), (1, .int p1), (2, .int p2), (3, .int p3)]) zpl_X12 rfl rfl rfl (Nat.le_of_ble_eq_true rfl) ?_
  intro p e s m below meth c A ls Q hx hb hr hts hown hlocks hml hP hK hD hA hS hl hQ
  unfold fn_X12_front at hfn
  refine lv_aload_n hx hb dX12_front_0 rfl (lv_at hl 0 rfl) ?_
  refine lv_iload_n hx hb dX12_front_1 rfl (lv_at hl 1 rfl) ?_
  obtain ⟨o_1, hqo_1, hfn⟩ := zb_s hfn
  refine zcVb (ci := 12) (rest := []) (pc' := 5) (ws' := [(h0, .inr (12, zO a0 b0 c0)), zVi (a0 17) k1 2 f1, zVi (a0 26) k2 28 f2, zVi (a0 27) k3 28 f3, zVi (a0 25) k4 28 f4, zVi (a0 29) k5 14 f5, zVi (a0 12) k6 2 f6, zVi (a0 37) k7 14 f7, zVi (a0 39) k8 14 f8, zVi (a0 19) k9 28 f9, zVi (a0 20) k10 28 f10, zVi (a0 21) k11 28 f11, zVl (a0 31) k12 14 f12, zVl (a0 22) k13 28 f13, zVl (a0 23) k14 28 f14, zVl (a0 32) k15 14 f15, zVi (a0 14) k16 8 f16, zVl (a0 40) k17 14 f17, zVi (a0 15) k18 8 f18, zVi (a0 24) k19 2 f19, zVi (a0 16) k20 8 f20, zVi (a0 54) k21 1024 f21, zVl (a0 55) k22 1024 f22, zVi (a0 56) k23 1024 f23]) hP hK hD hS hA ⟨hx, hb, hml, hown, hts⟩ (zf_X12_isAnswer l dC dI h0 p1 a0 b0 c0 k1 f1 k2 f2 o_1 hqo_1 s.heap.size) (cwV 1 hts gX12_front_X12_isAnswer rfl rfl rfl zhd_X12_isAnswer ⟨Nat.le_of_ble_eq_true rfl, Nat.le_of_ble_eq_true rfl⟩) [0, 1, 2] rfl (of_decide_eq_true rfl) [0, 1] rfl rfl rfl rfl hl.1 rfl (Nat.le_of_ble_eq_true rfl) dX12_front_2 ⟨Nat.le_of_ble_eq_true rfl, Nat.le_of_ble_eq_true rfl⟩ [some 0, some 1, some 2] (of_decide_eq_true rfl) (of_decide_eq_true rfl) rfl rfl rfl (fun H locs hw_4n hP hD hS => ?_)
  refine lv_if_eq (tgt := 27) hx hb dX12_front_5 (of_decide_eq_true rfl) (fun c_5 => ?_) (fun c_5 => ?_)
  · have hfn := (if_pos c_5).symm.trans hfn
    refine lv_ldc2 (v := (-1000000000000000)) hx hb hown (hts (.constantLong RX12 381 (-1000000000000000)) zw_X12_front_1304) dX12_front_27 ?_
    have ho := Option.some.inj hfn
    subst ho
    exact zrl hx hb hr hK hP hD hS hQ rfl hlocks dX12_front_30
  have hfn := (if_neg c_5).symm.trans hfn
  refine lv_aload_n hx hb dX12_front_8 rfl (lv_at hl 0 rfl) ?_
  obtain ⟨o_6, hqo_6, hfn⟩ := zb_s hfn
  refine zcVb (ci := 12) (rest := []) (pc' := 12) (ws' := [(h0, .inr (12, zO a0 (zI (zI b0 30 o_6.2.1) 33 o_6.2.2.1) c0)), zVi (a0 17) k1 2 f1, zVi (a0 26) k2 28 f2, zVi (a0 27) k3 28 f3, zVi (a0 25) k4 28 f4, zVi (a0 29) k5 14 o_6.2.2.2, zVi (a0 12) k6 2 f6, zVi (a0 37) k7 14 f7, zVi (a0 39) k8 14 f8, zVi (a0 19) k9 28 f9, zVi (a0 20) k10 28 f10, zVi (a0 21) k11 28 f11, zVl (a0 31) k12 14 f12, zVl (a0 22) k13 28 f13, zVl (a0 23) k14 28 f14, zVl (a0 32) k15 14 f15, zVi (a0 14) k16 8 f16, zVl (a0 40) k17 14 f17, zVi (a0 15) k18 8 f18, zVi (a0 24) k19 2 f19, zVi (a0 16) k20 8 f20, zVi (a0 54) k21 1024 f21, zVl (a0 55) k22 1024 f22, zVi (a0 56) k23 1024 f23]) hP hK hD hS hA ⟨hx, hb, hml, hown, hts⟩ (zf_X12_canSearch l dC dI h0 a0 b0 c0 k1 f1 k3 f3 k4 f4 k5 f5 o_6 hqo_6 H.size) (cwV 0 hts gX12_front_X12_canSearch rfl rfl rfl zhd_X12_canSearch ⟨Nat.le_of_ble_eq_true rfl, Nat.le_of_ble_eq_true rfl⟩) [0, 1, 3, 4, 5] rfl (of_decide_eq_true rfl) [0, 2, 3, 4] rfl rfl rfl rfl hl.1 rfl (Nat.le_of_ble_eq_true rfl) dX12_front_9 ⟨Nat.le_of_ble_eq_true rfl, Nat.le_of_ble_eq_true rfl⟩ [some 0, some 1, none, some 2, some 3, some 4] (of_decide_eq_true rfl) (of_decide_eq_true rfl) rfl rfl rfl (fun H locs hw_9n hP hD hS => ?_)
  refine lv_if_eq (tgt := 27) hx hb dX12_front_12 (of_decide_eq_true rfl) (fun c_10 => ?_) (fun c_10 => ?_)
  · have hfn := (if_pos c_10).symm.trans hfn
    refine lv_ldc2 (v := (-1000000000000000)) hx hb hown (hts (.constantLong RX12 381 (-1000000000000000)) zw_X12_front_1304) dX12_front_27 ?_
    have ho := Option.some.inj hfn
    subst ho
    exact zrl hx hb hr hK hP hD hS hQ rfl hlocks dX12_front_30
  have hfn := (if_neg c_10).symm.trans hfn
  refine lv_iload_n hx hb dX12_front_15 rfl (lv_at hl 3 rfl) ?_
  refine lv_i2l (v := p3.toInt64) hx hb dX12_front_16 rfl ?_
  refine lv_lconst (v := 0) hx hb dX12_front_17 (by decide +kernel) ?_
  refine lv_ldc2 (v := 2) hx hb hown (hts (.constantLong RX12 383 (2)) zw_X12_front_1305) dX12_front_18 ?_
  obtain ⟨o_11, hqo_11, hfn⟩ := zb_s hfn
  refine zcSb (rest := []) (pc' := 24) (ws' := [(h0, .inr (12, zO a0 (zI (zI b0 30 o_6.2.1) 33 o_6.2.2.1) c0)), zVi (a0 17) k1 2 f1, zVi (a0 26) k2 28 f2, zVi (a0 27) k3 28 f3, zVi (a0 25) k4 28 f4, zVi (a0 29) k5 14 o_6.2.2.2, zVi (a0 12) k6 2 f6, zVi (a0 37) k7 14 f7, zVi (a0 39) k8 14 f8, zVi (a0 19) k9 28 f9, zVi (a0 20) k10 28 f10, zVi (a0 21) k11 28 f11, zVl (a0 31) k12 14 f12, zVl (a0 22) k13 28 f13, zVl (a0 23) k14 28 f14, zVl (a0 32) k15 14 f15, zVi (a0 14) k16 8 f16, zVl (a0 40) k17 14 f17, zVi (a0 15) k18 8 f18, zVi (a0 24) k19 2 f19, zVi (a0 16) k20 8 f20, zVi (a0 54) k21 1024 f21, zVl (a0 55) k22 1024 f22, zVi (a0 56) k23 1024 f23]) hP hK hD hS hA ⟨hx, hb, hml, hown, hts⟩ (zf_X12_isIn l dC dI p3.toInt64 (0 : Int64) (2 : Int64) o_11 hqo_11 H.size) (va_cwS 3 hts gX12_front_X12_isIn rfl rfl rfl zhd_X12_isIn.2 ⟨Nat.le_of_ble_eq_true rfl, Nat.le_of_ble_eq_true rfl⟩) [] rfl (of_decide_eq_true rfl) [] rfl rfl hl.1 rfl (Nat.le_of_ble_eq_true rfl) dX12_front_21 ⟨Nat.le_of_ble_eq_true rfl, Nat.le_of_ble_eq_true rfl⟩ [] (of_decide_eq_true rfl) (of_decide_eq_true rfl) rfl rfl rfl (fun H locs hw_14n hP hD hS => ?_)
  refine lv_if_ne (tgt := 31) hx hb dX12_front_24 (of_decide_eq_true rfl) (fun c_15 => ?_) (fun c_15 => ?_)
  · have hfn := (if_neg c_15).symm.trans hfn
    refine lv_aload_n hx hb dX12_front_31 rfl (lv_at hl 0 rfl) ?_
    refine lv_iload_n hx hb dX12_front_32 rfl (lv_at hl 1 rfl) ?_
    obtain ⟨o_16, hqo_16, hfn⟩ := zb_s hfn
    refine zcVv (ci := 12) (rest := []) (pc' := 36) (ws' := [(h0, .inr (12, zO a0 (zI (zI (zI (zI (zI b0 30 o_6.2.1) 33 o_6.2.2.1) 41 o_16.1) 42 o_16.2.1) 57 o_16.2.2.1) c0)), zVi (a0 17) k1 2 f1, zVi (a0 26) k2 28 f2, zVi (a0 27) k3 28 f3, zVi (a0 25) k4 28 f4, zVi (a0 29) k5 14 o_6.2.2.2, zVi (a0 12) k6 2 f6, zVi (a0 37) k7 14 f7, zVi (a0 39) k8 14 o_16.2.2.2.1, zVi (a0 19) k9 28 f9, zVi (a0 20) k10 28 f10, zVi (a0 21) k11 28 f11, zVl (a0 31) k12 14 o_16.2.2.2.2.1, zVl (a0 22) k13 28 f13, zVl (a0 23) k14 28 f14, zVl (a0 32) k15 14 o_16.2.2.2.2.2.1, zVi (a0 14) k16 8 f16, zVl (a0 40) k17 14 o_16.2.2.2.2.2.2.1, zVi (a0 15) k18 8 f18, zVi (a0 24) k19 2 f19, zVi (a0 16) k20 8 f20, zVi (a0 54) k21 1024 o_16.2.2.2.2.2.2.2.1, zVl (a0 55) k22 1024 o_16.2.2.2.2.2.2.2.2.1, zVi (a0 56) k23 1024 o_16.2.2.2.2.2.2.2.2.2]) hP hK hD hS hA ⟨hx, hb, hml, hown, hts⟩ (zf_X12_laysFront l dC dI h0 p1 a0 (zI (zI b0 30 o_6.2.1) 33 o_6.2.2.1) c0 k6 f6 k1 f1 k7 f7 k8 f8 k5 o_6.2.2.2 k3 f3 k9 f9 k10 f10 k11 f11 k12 f12 k13 f13 k14 f14 k15 f15 k16 f16 k17 f17 k18 f18 k2 f2 k19 f19 k20 f20 k21 f21 k22 f22 k23 f23 o_16 hqo_16 H.size) (cwV 1 hts gX12_front_X12_laysFront rfl rfl rfl zhd_X12_laysFront ⟨Nat.le_of_ble_eq_true rfl, Nat.le_of_ble_eq_true rfl⟩) [0, 6, 1, 7, 8, 5, 3, 9, 10, 11, 12, 13, 14, 15, 16, 17, 18, 2, 19, 20, 21, 22, 23] rfl (of_decide_eq_true rfl) [5, 0, 6, 7, 4, 2, 8, 9, 10, 11, 12, 13, 14, 15, 16, 17, 1, 18, 19, 20, 21, 22] rfl rfl rfl rfl hl.1 rfl (Nat.le_of_ble_eq_true rfl) dX12_front_33 ⟨Nat.le_of_ble_eq_true rfl, Nat.le_of_ble_eq_true rfl⟩ [some 0, some 2, some 17, some 6, none, some 5, some 1, some 3, some 4, some 7, some 8, some 9, some 10, some 11, some 12, some 13, some 14, some 15, some 16, some 18, some 19, some 20, some 21, some 22] (of_decide_eq_true rfl) (of_decide_eq_true rfl) rfl rfl rfl (fun H locs hP hD hS => ?_)
    refine lv_iload_n hx hb dX12_front_36 rfl (lv_at hl 2 rfl) ?_
    refine lv_iconst (v := (-1)) hx hb dX12_front_37 zci_m1 ?_
    refine lv_icmp_ne (tgt := 57) hx hb dX12_front_38 (of_decide_eq_true rfl) (fun c_20 => ?_) (fun c_20 => ?_)
    · have hfn := (if_neg c_20).symm.trans hfn
      refine lv_iload_n hx hb dX12_front_57 rfl (lv_at hl 2 rfl) ?_
      refine lv_i2l (v := p2.toInt64) hx hb dX12_front_58 rfl ?_
      refine lv_lconst (v := 0) hx hb dX12_front_59 (by decide +kernel) ?_
      refine lv_aload_n hx hb dX12_front_60 rfl (lv_at hl 0 rfl) ?_
      refine va_get (D := (dC, dI)) (ci := 12) (v := .int o_16.2.2.1) (C := RX12) (T := TX12) (N := 67) hx hb hts zn_X12_front_X12 hown hK hP 0 rfl rfl 57 (of_decide_eq_true rfl) (hts (.fieldLink RX12 186 "ShortEnoughModel" "fronts" "I") zw_X12_front_1307) (fun _ h9 => h9) rfl dX12_front_61 ?_
      refine lv_i2l (v := o_16.2.2.1.toInt64) hx hb dX12_front_64 rfl ?_
      refine lv_lconst (v := 1) hx hb dX12_front_65 (by decide +kernel) ?_
      refine lv_lsub hx hb dX12_front_66 ?_
      obtain ⟨o_21, hqo_21, hfn⟩ := zb_s hfn
      refine zcSb (rest := []) (pc' := 70) (ws' := [(h0, .inr (12, zO a0 (zI (zI (zI (zI (zI b0 30 o_6.2.1) 33 o_6.2.2.1) 41 o_16.1) 42 o_16.2.1) 57 o_16.2.2.1) c0)), zVi (a0 17) k1 2 f1, zVi (a0 26) k2 28 f2, zVi (a0 27) k3 28 f3, zVi (a0 25) k4 28 f4, zVi (a0 29) k5 14 o_6.2.2.2, zVi (a0 12) k6 2 f6, zVi (a0 37) k7 14 f7, zVi (a0 39) k8 14 o_16.2.2.2.1, zVi (a0 19) k9 28 f9, zVi (a0 20) k10 28 f10, zVi (a0 21) k11 28 f11, zVl (a0 31) k12 14 o_16.2.2.2.2.1, zVl (a0 22) k13 28 f13, zVl (a0 23) k14 28 f14, zVl (a0 32) k15 14 o_16.2.2.2.2.2.1, zVi (a0 14) k16 8 f16, zVl (a0 40) k17 14 o_16.2.2.2.2.2.2.1, zVi (a0 15) k18 8 f18, zVi (a0 24) k19 2 f19, zVi (a0 16) k20 8 f20, zVi (a0 54) k21 1024 o_16.2.2.2.2.2.2.2.1, zVl (a0 55) k22 1024 o_16.2.2.2.2.2.2.2.2.1, zVi (a0 56) k23 1024 o_16.2.2.2.2.2.2.2.2.2]) hP hK hD hS hA ⟨hx, hb, hml, hown, hts⟩ (zf_X12_isIn l dC dI p2.toInt64 (0 : Int64) (o_16.2.2.1.toInt64 - (1 : Int64)) o_21 hqo_21 H.size) (va_cwS 3 hts gX12_front_X12_isIn rfl rfl rfl zhd_X12_isIn.2 ⟨Nat.le_of_ble_eq_true rfl, Nat.le_of_ble_eq_true rfl⟩) [] rfl (of_decide_eq_true rfl) [] rfl rfl hl.1 rfl (Nat.le_of_ble_eq_true rfl) dX12_front_67 ⟨Nat.le_of_ble_eq_true rfl, Nat.le_of_ble_eq_true rfl⟩ [] (of_decide_eq_true rfl) (of_decide_eq_true rfl) rfl rfl rfl (fun H locs hw_24n hP hD hS => ?_)
      refine lv_if_ne (tgt := 77) hx hb dX12_front_70 (of_decide_eq_true rfl) (fun c_25 => ?_) (fun c_25 => ?_)
      · have hfn := (if_neg c_25).symm.trans hfn
        refine lv_iload_n hx hb dX12_front_77 rfl (lv_at hl 3 rfl) ?_
        refine lv_if_ne (tgt := 91) hx hb dX12_front_78 (of_decide_eq_true rfl) (fun c_26 => ?_) (fun c_26 => ?_)
        · have hfn := (if_neg c_26).symm.trans hfn
          refine lv_iload_n hx hb dX12_front_91 rfl (lv_at hl 3 rfl) ?_
          refine lv_iconst (v := 1) hx hb dX12_front_92 zci_1 ?_
          refine lv_icmp_ne (tgt := 105) hx hb dX12_front_93 (of_decide_eq_true rfl) (fun c_27 => ?_) (fun c_27 => ?_)
          · have hfn := (if_neg c_27).symm.trans hfn
            refine lv_aload_n hx hb dX12_front_105 rfl (lv_at hl 0 rfl) ?_
            refine va_get (D := (dC, dI)) (ci := 12) (v := .ref (a0 56)) (C := RX12) (T := TX12) (N := 67) hx hb hts zn_X12_front_X12 hown hK hP 0 rfl rfl 56 (of_decide_eq_true rfl) (hts (.fieldLink RX12 183 "ShortEnoughModel" "frontMany" "[I") zw_X12_front_1308) (fun _ h9 => h9) rfl dX12_front_106 ?_
            refine lv_iload_n hx hb dX12_front_109 rfl (lv_at hl 2 rfl) ?_
            obtain ⟨h_28, hfn⟩ := zg_s hfn
            refine va_iald hx hb hK hP 23 22 rfl rfl h_28 dX12_front_110 ?_
            refine lv_i2l (v := (o_16.2.2.2.2.2.2.2.2.2 p2.toNatClampNeg).toInt64) hx hb dX12_front_111 rfl ?_
            have ho := Option.some.inj hfn
            subst ho
            exact zrl hx hb hr hK hP hD hS hQ rfl hlocks dX12_front_112
          have hfn := (if_pos c_27).symm.trans hfn
          refine lv_aload_n hx hb dX12_front_96 rfl (lv_at hl 0 rfl) ?_
          refine va_get (D := (dC, dI)) (ci := 12) (v := .ref (a0 55)) (C := RX12) (T := TX12) (N := 67) hx hb hts zn_X12_front_X12 hown hK hP 0 rfl rfl 55 (of_decide_eq_true rfl) (hts (.fieldLink RX12 180 "ShortEnoughModel" "frontError" "[J") zw_X12_front_1309) (fun _ h9 => h9) rfl dX12_front_97 ?_
          refine lv_iload_n hx hb dX12_front_100 rfl (lv_at hl 2 rfl) ?_
          obtain ⟨h_29, hfn⟩ := zg_s hfn
          refine va_lald hx hb hK hP 22 21 rfl rfl h_29 dX12_front_101 ?_
          refine lv_goto (tgt := 112) hx hb dX12_front_102 (of_decide_eq_true rfl) ?_
          have ho := Option.some.inj hfn
          subst ho
          exact zrl hx hb hr hK hP hD hS hQ rfl hlocks dX12_front_112
        have hfn := (if_pos c_26).symm.trans hfn
        refine lv_aload_n hx hb dX12_front_81 rfl (lv_at hl 0 rfl) ?_
        refine va_get (D := (dC, dI)) (ci := 12) (v := .ref (a0 54)) (C := RX12) (T := TX12) (N := 67) hx hb hts zn_X12_front_X12 hown hK hP 0 rfl rfl 54 (of_decide_eq_true rfl) (hts (.fieldLink RX12 177 "ShortEnoughModel" "frontCost" "[I") zw_X12_front_1310) (fun _ h9 => h9) rfl dX12_front_82 ?_
        refine lv_iload_n hx hb dX12_front_85 rfl (lv_at hl 2 rfl) ?_
        obtain ⟨h_30, hfn⟩ := zg_s hfn
        refine va_iald hx hb hK hP 21 20 rfl rfl h_30 dX12_front_86 ?_
        refine lv_i2l (v := (o_16.2.2.2.2.2.2.2.1 p2.toNatClampNeg).toInt64) hx hb dX12_front_87 rfl ?_
        refine lv_goto (tgt := 112) hx hb dX12_front_88 (of_decide_eq_true rfl) ?_
        have ho := Option.some.inj hfn
        subst ho
        exact zrl hx hb hr hK hP hD hS hQ rfl hlocks dX12_front_112
      have hfn := (if_pos c_25).symm.trans hfn
      refine lv_ldc2 (v := (-1000000000000000)) hx hb hown (hts (.constantLong RX12 381 (-1000000000000000)) zw_X12_front_1304) dX12_front_73 ?_
      have ho := Option.some.inj hfn
      subst ho
      exact zrl hx hb hr hK hP hD hS hQ rfl hlocks dX12_front_76
    have hfn := (if_pos c_20).symm.trans hfn
    refine lv_iload_n hx hb dX12_front_41 rfl (lv_at hl 3 rfl) ?_
    refine lv_if_ne (tgt := 53) hx hb dX12_front_42 (of_decide_eq_true rfl) (fun c_31 => ?_) (fun c_31 => ?_)
    · have hfn := (if_neg c_31).symm.trans hfn
      refine lv_ldc2 (v := (-1000000000000000)) hx hb hown (hts (.constantLong RX12 381 (-1000000000000000)) zw_X12_front_1304) dX12_front_53 ?_
      have ho := Option.some.inj hfn
      subst ho
      exact zrl hx hb hr hK hP hD hS hQ rfl hlocks dX12_front_56
    have hfn := (if_pos c_31).symm.trans hfn
    refine lv_aload_n hx hb dX12_front_45 rfl (lv_at hl 0 rfl) ?_
    refine va_get (D := (dC, dI)) (ci := 12) (v := .int o_16.2.2.1) (C := RX12) (T := TX12) (N := 67) hx hb hts zn_X12_front_X12 hown hK hP 0 rfl rfl 57 (of_decide_eq_true rfl) (hts (.fieldLink RX12 186 "ShortEnoughModel" "fronts" "I") zw_X12_front_1307) (fun _ h9 => h9) rfl dX12_front_46 ?_
    refine lv_i2l (v := o_16.2.2.1.toInt64) hx hb dX12_front_49 rfl ?_
    refine lv_goto (tgt := 56) hx hb dX12_front_50 (of_decide_eq_true rfl) ?_
    have ho := Option.some.inj hfn
    subst ho
    exact zrl hx hb hr hK hP hD hS hQ rfl hlocks dX12_front_56
  have hfn := (if_pos c_15).symm.trans hfn
  refine lv_ldc2 (v := (-1000000000000000)) hx hb hown (hts (.constantLong RX12 381 (-1000000000000000)) zw_X12_front_1304) dX12_front_27 ?_
  have ho := Option.some.inj hfn
  subst ho
  exact zrl hx hb hr hK hP hD hS hQ rfl hlocks dX12_front_30
theorem zw_X12_least_1311 : Cond.constantLong RX12 381 (-1000000000000000) ∈ wsX12_least := List.mem_of_getElem? (i := 1) (by decide +kernel)
theorem zn_X12_least_X12 : ∀ w ∈ wsX120, w ∈ wsX12_least := fun _ h => List.mem_cons_of_mem _ (List.mem_append_right _ h)
theorem zw_X12_least_1313 : Cond.fieldLink RX12 135 "ShortEnoughModel" "error" "[J" ∈ wsX12_least := List.mem_of_getElem? (i := 2) (by decide +kernel)
set_option maxHeartbeats 4000000 in
set_option maxRecDepth 100000 in
theorem zf_X12_least (l : Launch) (dC : Nat → ClassId) (dI : Nat → Nat → Nat) (h0 : Nat) (p1 : Int32) (p2 : Int32) (a0 : Nat → Nat) (b0 : Nat → Int32) (c0 : Nat → Int64) (k1 : Nat) (f1 : Nat → Int32) (k2 : Nat) (f2 : Nat → Int32) (k3 : Nat) (f3 : Nat → Int32) (k4 : Nat) (f4 : Nat → Int32) (k5 : Nat) (f5 : Nat → Int32) (k6 : Nat) (f6 : Nat → Int32) (k7 : Nat) (f7 : Nat → Int32) (k8 : Nat) (f8 : Nat → Int32) (k9 : Nat) (f9 : Nat → Int32) (k10 : Nat) (f10 : Nat → Int32) (k11 : Nat) (f11 : Nat → Int32) (k12 : Nat) (f12 : Nat → Int32) (k13 : Nat) (f13 : Nat → Int32) (k14 : Nat) (f14 : Nat → Int64) (k15 : Nat) (f15 : Nat → Int64) (k16 : Nat) (f16 : Nat → Int64) (k17 : Nat) (f17 : Nat → Int64) (k18 : Nat) (f18 : Nat → Int32) (k19 : Nat) (f19 : Nat → Int64) (k20 : Nat) (f20 : Nat → Int32) (o : Int64 × Int32 × Int32 × Int32 × Int32 × (Nat → Int32) × (Nat → Int32) × (Nat → Int64) × (Nat → Int64) × (Nat → Int64)) (hfn : fn_X12_least p1 p2 (b0 30) (b0 33) (c0 34) (b0 38) (b0 41) (b0 42) f1 f2 f3 f4 f5 f6 f7 f8 f9 f10 f11 f12 f13 f14 f15 f16 f17 f18 f19 f20 = some o) (sz : Nat) : zMl l yX12_least wsX12_least ({ frames := 5, cells := 0, slots := 0, locals := 134 }) (dC, dI) vwCl [.ref h0, .int p1, .int p2] [(h0, .inr (12, zO a0 b0 c0)), zVi (a0 17) k1 2 f1, zVi (a0 26) k2 28 f2, zVi (a0 27) k3 28 f3, zVi (a0 25) k4 28 f4, zVi (a0 29) k5 14 f5, zVi (a0 12) k6 2 f6, zVi (a0 37) k7 14 f7, zVi (a0 39) k8 14 f8, zVi (a0 24) k9 2 f9, zVi (a0 20) k10 28 f10, zVi (a0 21) k11 28 f11, zVi (a0 16) k12 8 f12, zVi (a0 19) k13 28 f13, zVl (a0 31) k14 14 f14, zVl (a0 22) k15 28 f15, zVl (a0 23) k16 28 f16, zVl (a0 32) k17 14 f17, zVi (a0 14) k18 8 f18, zVl (a0 40) k19 14 f19, zVi (a0 15) k20 8 f20] [(k1, .int), (k2, .int), (k3, .int), (k4, .int), (k5, .int), (k6, .int), (k7, .int), (k8, .int), (k9, .int), (k10, .int), (k11, .int), (k12, .int), (k13, .int), (k14, .long), (k15, .long), (k16, .long), (k17, .long), (k18, .int), (k19, .long), (k20, .int)] (fun r _ => r = o.1) [(h0, .inr (12, zO a0 (zI (zI (zI (zI b0 30 o.2.1) 33 o.2.2.1) 41 o.2.2.2.1) 42 o.2.2.2.2.1) c0)), zVi (a0 17) k1 2 f1, zVi (a0 26) k2 28 f2, zVi (a0 27) k3 28 f3, zVi (a0 25) k4 28 f4, zVi (a0 29) k5 14 o.2.2.2.2.2.1, zVi (a0 12) k6 2 f6, zVi (a0 37) k7 14 f7, zVi (a0 39) k8 14 o.2.2.2.2.2.2.1, zVi (a0 24) k9 2 f9, zVi (a0 20) k10 28 f10, zVi (a0 21) k11 28 f11, zVi (a0 16) k12 8 f12, zVi (a0 19) k13 28 f13, zVl (a0 31) k14 14 o.2.2.2.2.2.2.2.1, zVl (a0 22) k15 28 f15, zVl (a0 23) k16 28 f16, zVl (a0 32) k17 14 o.2.2.2.2.2.2.2.2.1, zVi (a0 14) k18 8 f18, zVl (a0 40) k19 14 o.2.2.2.2.2.2.2.2.2, zVi (a0 15) k20 8 f20] [(k1, .int), (k2, .int), (k3, .int), (k4, .int), (k5, .int), (k6, .int), (k7, .int), (k8, .int), (k9, .int), (k10, .int), (k11, .int), (k12, .int), (k13, .int), (k14, .long), (k15, .long), (k16, .long), (k17, .long), (k18, .int), (k19, .long), (k20, .int)] sz := by
  refine zgol (cc := cX12_least) (maxL := 7) (ret := (some .long)) (C0 := RX12) (lv0 := [(0, .ref h0), (1, .int p1), (2, .int p2)]) zpl_X12 rfl rfl rfl (Nat.le_of_ble_eq_true rfl) ?_
  intro p e s m below meth c A ls Q hx hb hr hts hown hlocks hml hP hK hD hA hS hl hQ
  unfold fn_X12_least at hfn
  refine lv_aload_n hx hb dX12_least_0 rfl (lv_at hl 0 rfl) ?_
  refine lv_iload_n hx hb dX12_least_1 rfl (lv_at hl 1 rfl) ?_
  obtain ⟨o_1, hqo_1, hfn⟩ := zb_s hfn
  refine zcVb (ci := 12) (rest := []) (pc' := 5) (ws' := [(h0, .inr (12, zO a0 b0 c0)), zVi (a0 17) k1 2 f1, zVi (a0 26) k2 28 f2, zVi (a0 27) k3 28 f3, zVi (a0 25) k4 28 f4, zVi (a0 29) k5 14 f5, zVi (a0 12) k6 2 f6, zVi (a0 37) k7 14 f7, zVi (a0 39) k8 14 f8, zVi (a0 24) k9 2 f9, zVi (a0 20) k10 28 f10, zVi (a0 21) k11 28 f11, zVi (a0 16) k12 8 f12, zVi (a0 19) k13 28 f13, zVl (a0 31) k14 14 f14, zVl (a0 22) k15 28 f15, zVl (a0 23) k16 28 f16, zVl (a0 32) k17 14 f17, zVi (a0 14) k18 8 f18, zVl (a0 40) k19 14 f19, zVi (a0 15) k20 8 f20]) hP hK hD hS hA ⟨hx, hb, hml, hown, hts⟩ (zf_X12_isAnswer l dC dI h0 p1 a0 b0 c0 k1 f1 k2 f2 o_1 hqo_1 s.heap.size) (cwV 1 hts gX12_least_X12_isAnswer rfl rfl rfl zhd_X12_isAnswer ⟨Nat.le_of_ble_eq_true rfl, Nat.le_of_ble_eq_true rfl⟩) [0, 1, 2] rfl (of_decide_eq_true rfl) [0, 1] rfl rfl rfl rfl hl.1 rfl (Nat.le_of_ble_eq_true rfl) dX12_least_2 ⟨Nat.le_of_ble_eq_true rfl, Nat.le_of_ble_eq_true rfl⟩ [some 0, some 1, some 2] (of_decide_eq_true rfl) (of_decide_eq_true rfl) rfl rfl rfl (fun H locs hw_4n hP hD hS => ?_)
  refine lv_if_eq (tgt := 15) hx hb dX12_least_5 (of_decide_eq_true rfl) (fun c_5 => ?_) (fun c_5 => ?_)
  · have hfn := (if_pos c_5).symm.trans hfn
    refine lv_ldc2 (v := (-1000000000000000)) hx hb hown (hts (.constantLong RX12 381 (-1000000000000000)) zw_X12_least_1311) dX12_least_15 ?_
    have ho := Option.some.inj hfn
    subst ho
    exact zrl hx hb hr hK hP hD hS hQ rfl hlocks dX12_least_18
  have hfn := (if_neg c_5).symm.trans hfn
  refine lv_aload_n hx hb dX12_least_8 rfl (lv_at hl 0 rfl) ?_
  obtain ⟨o_6, hqo_6, hfn⟩ := zb_s hfn
  refine zcVb (ci := 12) (rest := []) (pc' := 12) (ws' := [(h0, .inr (12, zO a0 (zI (zI b0 30 o_6.2.1) 33 o_6.2.2.1) c0)), zVi (a0 17) k1 2 f1, zVi (a0 26) k2 28 f2, zVi (a0 27) k3 28 f3, zVi (a0 25) k4 28 f4, zVi (a0 29) k5 14 o_6.2.2.2, zVi (a0 12) k6 2 f6, zVi (a0 37) k7 14 f7, zVi (a0 39) k8 14 f8, zVi (a0 24) k9 2 f9, zVi (a0 20) k10 28 f10, zVi (a0 21) k11 28 f11, zVi (a0 16) k12 8 f12, zVi (a0 19) k13 28 f13, zVl (a0 31) k14 14 f14, zVl (a0 22) k15 28 f15, zVl (a0 23) k16 28 f16, zVl (a0 32) k17 14 f17, zVi (a0 14) k18 8 f18, zVl (a0 40) k19 14 f19, zVi (a0 15) k20 8 f20]) hP hK hD hS hA ⟨hx, hb, hml, hown, hts⟩ (zf_X12_canSearch l dC dI h0 a0 b0 c0 k1 f1 k3 f3 k4 f4 k5 f5 o_6 hqo_6 H.size) (cwV 0 hts gX12_least_X12_canSearch rfl rfl rfl zhd_X12_canSearch ⟨Nat.le_of_ble_eq_true rfl, Nat.le_of_ble_eq_true rfl⟩) [0, 1, 3, 4, 5] rfl (of_decide_eq_true rfl) [0, 2, 3, 4] rfl rfl rfl rfl hl.1 rfl (Nat.le_of_ble_eq_true rfl) dX12_least_9 ⟨Nat.le_of_ble_eq_true rfl, Nat.le_of_ble_eq_true rfl⟩ [some 0, some 1, none, some 2, some 3, some 4] (of_decide_eq_true rfl) (of_decide_eq_true rfl) rfl rfl rfl (fun H locs hw_9n hP hD hS => ?_)
  refine lv_if_ne (tgt := 19) hx hb dX12_least_12 (of_decide_eq_true rfl) (fun c_10 => ?_) (fun c_10 => ?_)
  · have hfn := (if_neg c_10).symm.trans hfn
    refine lv_ldc2 (v := (-1000000000000000)) hx hb hown (hts (.constantLong RX12 381 (-1000000000000000)) zw_X12_least_1311) dX12_least_19 ?_
    refine lv_lstore_n (lv' := [(3, .long (-1000000000000000)), (0, .ref h0), (1, .int p1), (2, .int p2)]) hx hb dX12_least_22 rfl hl (of_decide_eq_true rfl) rfl (fun ls hl => ?_)
    refine lv_aload_n hx hb dX12_least_23 rfl (lv_at hl 1 rfl) ?_
    obtain ⟨o_11, hqo_11, hfn⟩ := zb_s hfn
    refine zcVi (ci := 12) (rest := []) (pc' := 27) (ws' := [(h0, .inr (12, zO a0 (zI (zI b0 30 o_6.2.1) 33 o_6.2.2.1) c0)), zVi (a0 17) k1 2 f1, zVi (a0 26) k2 28 f2, zVi (a0 27) k3 28 f3, zVi (a0 25) k4 28 f4, zVi (a0 29) k5 14 o_6.2.2.2, zVi (a0 12) k6 2 f6, zVi (a0 37) k7 14 f7, zVi (a0 39) k8 14 f8, zVi (a0 24) k9 2 f9, zVi (a0 20) k10 28 f10, zVi (a0 21) k11 28 f11, zVi (a0 16) k12 8 f12, zVi (a0 19) k13 28 f13, zVl (a0 31) k14 14 f14, zVl (a0 22) k15 28 f15, zVl (a0 23) k16 28 f16, zVl (a0 32) k17 14 f17, zVi (a0 14) k18 8 f18, zVl (a0 40) k19 14 f19, zVi (a0 15) k20 8 f20]) hP hK hD hS hA ⟨hx, hb, hml, hown, hts⟩ (zf_X12_allChoices l dC dI h0 a0 (zI (zI b0 30 o_6.2.1) 33 o_6.2.2.1) c0 k6 f6 o_11 hqo_11 H.size) (cwV 0 hts gX12_least_X12_allChoices rfl rfl rfl zhd_X12_allChoices ⟨Nat.le_of_ble_eq_true rfl, Nat.le_of_ble_eq_true rfl⟩) [0, 6] rfl (of_decide_eq_true rfl) [5] rfl rfl rfl rfl hl.1 rfl (Nat.le_of_ble_eq_true rfl) dX12_least_24 ⟨Nat.le_of_ble_eq_true rfl, Nat.le_of_ble_eq_true rfl⟩ [some 0, none, none, none, none, none, some 1] (of_decide_eq_true rfl) (of_decide_eq_true rfl) rfl rfl rfl (fun H locs hP hD hS => ?_)
    refine lv_istore (lv' := [(5, .int o_11), (3, .long (-1000000000000000)), (0, .ref h0), (1, .int p1), (2, .int p2)]) hx hb dX12_least_27 hl (of_decide_eq_true rfl) rfl (fun ls hl => ?_)
    refine lv_iconst (v := 0) hx hb dX12_least_29 zci_0 ?_
    refine lv_istore (lv' := [(6, .int 0), (5, .int o_11), (3, .long (-1000000000000000)), (0, .ref h0), (1, .int p1), (2, .int p2)]) hx hb dX12_least_30 hl (of_decide_eq_true rfl) rfl (fun ls hl => ?_)
    obtain ⟨bd_15, ebd_15, hfn⟩ := zl_g hfn
    have lp_15 : ∀ (n : Nat) (s_15 : Int64 × Int32 × Int32 × Int32 × (Nat → Int64) × (Nat → Int64) × (Nat → Int32) × (Nat → Int64)) (H : Heap) (locs : List Loc) (ls : Array Slot), zl bd_15 n s_15 = some o → va_P (dC, dI) vwCl [(h0, .inr (12, zO a0 (zI (zI (zI (zI b0 30 o_6.2.1) 33 o_6.2.2.1) 41 s_15.2.2.1) 42 s_15.2.2.2.1) c0)), zVi (a0 17) k1 2 f1, zVi (a0 26) k2 28 f2, zVi (a0 27) k3 28 f3, zVi (a0 25) k4 28 f4, zVi (a0 29) k5 14 o_6.2.2.2, zVi (a0 12) k6 2 f6, zVi (a0 37) k7 14 f7, zVi (a0 39) k8 14 s_15.2.2.2.2.2.2.1, zVi (a0 24) k9 2 f9, zVi (a0 20) k10 28 f10, zVi (a0 21) k11 28 f11, zVi (a0 16) k12 8 f12, zVi (a0 19) k13 28 f13, zVl (a0 31) k14 14 s_15.2.2.2.2.1, zVl (a0 22) k15 28 f15, zVl (a0 23) k16 28 f16, zVl (a0 32) k17 14 s_15.2.2.2.2.2.1, zVi (a0 14) k18 8 f18, zVl (a0 40) k19 14 s_15.2.2.2.2.2.2.2, zVi (a0 15) k20 8 f20] H → va_D A [(h0, .inr (12, zO a0 (zI (zI (zI (zI b0 30 o_6.2.1) 33 o_6.2.2.1) 41 s_15.2.2.1) 42 s_15.2.2.2.1) c0)), zVi (a0 17) k1 2 f1, zVi (a0 26) k2 28 f2, zVi (a0 27) k3 28 f3, zVi (a0 25) k4 28 f4, zVi (a0 29) k5 14 o_6.2.2.2, zVi (a0 12) k6 2 f6, zVi (a0 37) k7 14 f7, zVi (a0 39) k8 14 s_15.2.2.2.2.2.2.1, zVi (a0 24) k9 2 f9, zVi (a0 20) k10 28 f10, zVi (a0 21) k11 28 f11, zVi (a0 16) k12 8 f12, zVi (a0 19) k13 28 f13, zVl (a0 31) k14 14 s_15.2.2.2.2.1, zVl (a0 22) k15 28 f15, zVl (a0 23) k16 28 f16, zVl (a0 32) k17 14 s_15.2.2.2.2.2.1, zVi (a0 14) k18 8 f18, zVl (a0 40) k19 14 s_15.2.2.2.2.2.2.2, zVi (a0 15) k20 8 f20] → va_S A s.heap H locs → lv_has ls 7 [(6, .int s_15.2.1), (5, .int o_11), (3, .long s_15.1), (0, .ref h0), (1, .int p1), (2, .int p2)] → W p l e (headSpec wsX12_least ({ frames := 5, cells := 0, slots := 0, locals := 134 })).room s m ([.ref h0, .int p1, .int p2] : List Value).toArray below meth c H locs 0 0 Q (F0 m 32 ls []) := by
      intro n
      induction n with
      | zero => exact fun _ _ _ _ hfn => (zl_0 hfn).elim
      | succ n ih_15 =>
        intro s_15 H locs ls hfn hP hD hS hl
        have hfn := zl_s ebd_15 hfn
        refine lv_iload hx hb dX12_least_32 (lv_at hl 0 rfl) ?_
        refine lv_iload hx hb dX12_least_34 (lv_at hl 1 rfl) ?_
        refine lv_icmp_ge (tgt := 97) hx hb dX12_least_36 (of_decide_eq_true rfl) (fun c_16 => ?_) (fun c_16 => ?_)
        · have hfn := (if_pos c_16).symm.trans hfn
          refine lv_lload_n hx hb dX12_least_97 rfl (lv_at hl 2 rfl) ?_
          have ho := Option.some.inj hfn
          subst ho
          exact zrl hx hb hr hK hP hD hS hQ rfl hlocks dX12_least_98
        have hfn := (if_neg c_16).symm.trans hfn
        refine lv_aload_n hx hb dX12_least_39 rfl (lv_at hl 3 rfl) ?_
        refine lv_iload hx hb dX12_least_40 (lv_at hl 0 rfl) ?_
        obtain ⟨o_17, hqo_17, hfn⟩ := zb_s hfn
        refine zcVv (ci := 12) (rest := []) (pc' := 45) (ws' := [(h0, .inr (12, zO a0 (zI (zI (zI (zI b0 30 o_6.2.1) 33 o_6.2.2.1) 41 s_15.2.2.1) 42 s_15.2.2.2.1) c0)), zVi (a0 17) k1 2 f1, zVi (a0 26) k2 28 f2, zVi (a0 27) k3 28 f3, zVi (a0 25) k4 28 f4, zVi (a0 29) k5 14 o_6.2.2.2, zVi (a0 12) k6 2 f6, zVi (a0 37) k7 14 f7, zVi (a0 39) k8 14 o_17, zVi (a0 24) k9 2 f9, zVi (a0 20) k10 28 f10, zVi (a0 21) k11 28 f11, zVi (a0 16) k12 8 f12, zVi (a0 19) k13 28 f13, zVl (a0 31) k14 14 s_15.2.2.2.2.1, zVl (a0 22) k15 28 f15, zVl (a0 23) k16 28 f16, zVl (a0 32) k17 14 s_15.2.2.2.2.2.1, zVi (a0 14) k18 8 f18, zVl (a0 40) k19 14 s_15.2.2.2.2.2.2.2, zVi (a0 15) k20 8 f20]) hP hK hD hS hA ⟨hx, hb, hml, hown, hts⟩ (zf_X12_triesChoice l dC dI h0 s_15.2.1 a0 (zI (zI (zI (zI b0 30 o_6.2.1) 33 o_6.2.2.1) 41 s_15.2.2.1) 42 s_15.2.2.2.1) c0 k1 f1 k7 f7 k8 s_15.2.2.2.2.2.2.1 k5 o_6.2.2.2 k6 f6 k3 f3 o_17 hqo_17 H.size) (cwV 1 hts gX12_least_X12_triesChoice rfl rfl rfl zhd_X12_triesChoice ⟨Nat.le_of_ble_eq_true rfl, Nat.le_of_ble_eq_true rfl⟩) [0, 1, 7, 8, 5, 6, 3] rfl (of_decide_eq_true rfl) [0, 6, 7, 4, 5, 2] rfl rfl rfl rfl hl.1 rfl (Nat.le_of_ble_eq_true rfl) dX12_least_42 ⟨Nat.le_of_ble_eq_true rfl, Nat.le_of_ble_eq_true rfl⟩ [some 0, some 1, none, some 6, none, some 4, some 5, some 2, some 3] (of_decide_eq_true rfl) (of_decide_eq_true rfl) rfl rfl rfl (fun H locs hP hD hS => ?_)
        refine lv_aload_n hx hb dX12_least_45 rfl (lv_at hl 3 rfl) ?_
        obtain ⟨o_21, hqo_21, hfn⟩ := zb_s hfn
        refine zcVi (ci := 12) (rest := []) (pc' := 49) (ws' := [(h0, .inr (12, zO a0 (zI (zI (zI (zI b0 30 o_6.2.1) 33 o_6.2.2.1) 41 s_15.2.2.1) 42 s_15.2.2.2.1) c0)), zVi (a0 17) k1 2 f1, zVi (a0 26) k2 28 f2, zVi (a0 27) k3 28 f3, zVi (a0 25) k4 28 f4, zVi (a0 29) k5 14 o_6.2.2.2, zVi (a0 12) k6 2 f6, zVi (a0 37) k7 14 f7, zVi (a0 39) k8 14 o_17, zVi (a0 24) k9 2 f9, zVi (a0 20) k10 28 f10, zVi (a0 21) k11 28 f11, zVi (a0 16) k12 8 f12, zVi (a0 19) k13 28 f13, zVl (a0 31) k14 14 s_15.2.2.2.2.1, zVl (a0 22) k15 28 f15, zVl (a0 23) k16 28 f16, zVl (a0 32) k17 14 s_15.2.2.2.2.2.1, zVi (a0 14) k18 8 f18, zVl (a0 40) k19 14 s_15.2.2.2.2.2.2.2, zVi (a0 15) k20 8 f20]) hP hK hD hS hA ⟨hx, hb, hml, hown, hts⟩ (zf_X12_costTried l dC dI h0 a0 (zI (zI (zI (zI b0 30 o_6.2.1) 33 o_6.2.2.1) 41 s_15.2.2.1) 42 s_15.2.2.2.1) c0 k9 f9 k1 f1 k10 f10 k8 o_17 k11 f11 k12 f12 o_21 hqo_21 H.size) (cwV 0 hts gX12_least_X12_costTried rfl rfl rfl zhd_X12_costTried ⟨Nat.le_of_ble_eq_true rfl, Nat.le_of_ble_eq_true rfl⟩) [0, 9, 1, 10, 8, 11, 12] rfl (of_decide_eq_true rfl) [8, 0, 9, 7, 10, 11] rfl rfl rfl rfl hl.1 rfl (Nat.le_of_ble_eq_true rfl) dX12_least_46 ⟨Nat.le_of_ble_eq_true rfl, Nat.le_of_ble_eq_true rfl⟩ [some 0, some 2, none, none, none, none, none, none, some 4, some 1, some 3, some 5, some 6] (of_decide_eq_true rfl) (of_decide_eq_true rfl) rfl rfl rfl (fun H locs hP hD hS => ?_)
        refine lv_iload_n hx hb dX12_least_49 rfl (lv_at hl 5 rfl) ?_
        refine lv_icmp_gt (tgt := 91) hx hb dX12_least_50 (of_decide_eq_true rfl) (fun c_25 => ?_) (fun c_25 => ?_)
        · have hfn := (if_pos c_25).symm.trans hfn
          refine lv_iinc (v := (s_15.2.1 + 1)) (lv' := [(6, .int (s_15.2.1 + 1)), (5, .int o_11), (3, .long s_15.1), (0, .ref h0), (1, .int p1), (2, .int p2)]) hx hb dX12_least_91 hl (k := 0) rfl rfl (of_decide_eq_true rfl) rfl (fun ls hl => ?_)
          refine lv_goto (tgt := 32) hx hb dX12_least_94 (of_decide_eq_true rfl) ?_
          exact ih_15 (s_15.1, (s_15.2.1 + 1), s_15.2.2.1, s_15.2.2.2.1, s_15.2.2.2.2.1, s_15.2.2.2.2.2.1, o_17, s_15.2.2.2.2.2.2.2) H locs ls hfn hP hD hS (lv_sub hl [0, 1, 2, 3, 4, 5] rfl)
        have hfn := (if_neg c_25).symm.trans hfn
        refine lv_aload_n hx hb dX12_least_53 rfl (lv_at hl 3 rfl) ?_
        obtain ⟨o_26, hqo_26, hfn⟩ := zb_s hfn
        refine zcVb (ci := 12) (rest := []) (pc' := 57) (ws' := [(h0, .inr (12, zO a0 (zI (zI (zI (zI b0 30 o_6.2.1) 33 o_6.2.2.1) 41 o_26.2.1) 42 o_26.2.2.1) c0)), zVi (a0 17) k1 2 f1, zVi (a0 26) k2 28 f2, zVi (a0 27) k3 28 f3, zVi (a0 25) k4 28 f4, zVi (a0 29) k5 14 o_6.2.2.2, zVi (a0 12) k6 2 f6, zVi (a0 37) k7 14 f7, zVi (a0 39) k8 14 o_17, zVi (a0 24) k9 2 f9, zVi (a0 20) k10 28 f10, zVi (a0 21) k11 28 f11, zVi (a0 16) k12 8 f12, zVi (a0 19) k13 28 f13, zVl (a0 31) k14 14 o_26.2.2.2.1, zVl (a0 22) k15 28 f15, zVl (a0 23) k16 28 f16, zVl (a0 32) k17 14 o_26.2.2.2.2.1, zVi (a0 14) k18 8 f18, zVl (a0 40) k19 14 o_26.2.2.2.2.2, zVi (a0 15) k20 8 f20]) hP hK hD hS hA ⟨hx, hb, hml, hown, hts⟩ (zf_X12_passes l dC dI h0 a0 (zI (zI (zI (zI b0 30 o_6.2.1) 33 o_6.2.2.1) 41 s_15.2.2.1) 42 s_15.2.2.2.1) c0 k1 f1 k13 f13 k10 f10 k11 f11 k14 s_15.2.2.2.2.1 k15 f15 k16 f16 k17 s_15.2.2.2.2.2.1 k8 o_17 k18 f18 k19 s_15.2.2.2.2.2.2.2 k20 f20 k2 f2 o_26 hqo_26 H.size) (cwV 0 hts gX12_least_X12_passes rfl rfl rfl zhd_X12_passes ⟨Nat.le_of_ble_eq_true rfl, Nat.le_of_ble_eq_true rfl⟩) [0, 1, 13, 10, 11, 14, 15, 16, 17, 8, 18, 19, 20, 2] rfl (of_decide_eq_true rfl) [0, 12, 9, 10, 13, 14, 15, 16, 7, 17, 18, 19, 1] rfl rfl rfl rfl hl.1 rfl (Nat.le_of_ble_eq_true rfl) dX12_least_54 ⟨Nat.le_of_ble_eq_true rfl, Nat.le_of_ble_eq_true rfl⟩ [some 0, some 1, some 13, none, none, none, none, none, some 9, none, some 3, some 4, none, some 2, some 5, some 6, some 7, some 8, some 10, some 11, some 12] (of_decide_eq_true rfl) (of_decide_eq_true rfl) rfl rfl rfl (fun H locs hw_29n hP hD hS => ?_)
        refine lv_if_ne (tgt := 63) hx hb dX12_least_57 (of_decide_eq_true rfl) (fun c_30 => ?_) (fun c_30 => ?_)
        · have hfn := (if_neg c_30).symm.trans hfn
          refine lv_lload_n hx hb dX12_least_63 rfl (lv_at hl 2 rfl) ?_
          refine lv_ldc2 (v := (-1000000000000000)) hx hb hown (hts (.constantLong RX12 381 (-1000000000000000)) zw_X12_least_1311) dX12_least_64 ?_
          refine W.lcmp hx hb dX12_least_67 ?_
          refine lv_if_ne (tgt := 80) hx hb dX12_least_68 (of_decide_eq_true rfl) (fun c_31 => ?_) (fun c_31 => ?_)
          · have hfn := (if_neg c_31).symm.trans hfn
            refine lv_lload_n hx hb dX12_least_80 rfl (lv_at hl 2 rfl) ?_
            refine lv_aload_n hx hb dX12_least_81 rfl (lv_at hl 3 rfl) ?_
            refine va_get (D := (dC, dI)) (ci := 12) (v := .ref (a0 40)) (C := RX12) (T := TX12) (N := 67) hx hb hts zn_X12_least_X12 hown hK hP 0 rfl rfl 40 (of_decide_eq_true rfl) (hts (.fieldLink RX12 135 "ShortEnoughModel" "error" "[J") zw_X12_least_1313) (fun _ h9 => h9) rfl dX12_least_82 ?_
            refine lv_iload_n hx hb dX12_least_85 rfl (lv_at hl 4 rfl) ?_
            obtain ⟨h_32, hfn⟩ := zg_s hfn
            refine va_lald hx hb hK hP 19 18 rfl rfl h_32 dX12_least_86 ?_
            obtain ⟨o_33, hqo_33, hfn⟩ := zb_s hfn
            refine zcSl (rest := []) (pc' := 90) (ws' := [(h0, .inr (12, zO a0 (zI (zI (zI (zI b0 30 o_6.2.1) 33 o_6.2.2.1) 41 o_26.2.1) 42 o_26.2.2.1) c0)), zVi (a0 17) k1 2 f1, zVi (a0 26) k2 28 f2, zVi (a0 27) k3 28 f3, zVi (a0 25) k4 28 f4, zVi (a0 29) k5 14 o_6.2.2.2, zVi (a0 12) k6 2 f6, zVi (a0 37) k7 14 f7, zVi (a0 39) k8 14 o_17, zVi (a0 24) k9 2 f9, zVi (a0 20) k10 28 f10, zVi (a0 21) k11 28 f11, zVi (a0 16) k12 8 f12, zVi (a0 19) k13 28 f13, zVl (a0 31) k14 14 o_26.2.2.2.1, zVl (a0 22) k15 28 f15, zVl (a0 23) k16 28 f16, zVl (a0 32) k17 14 o_26.2.2.2.2.1, zVi (a0 14) k18 8 f18, zVl (a0 40) k19 14 o_26.2.2.2.2.2, zVi (a0 15) k20 8 f20]) hP hK hD hS hA ⟨hx, hb, hml, hown, hts⟩ (zf_X12_lesser l dC dI s_15.1 (o_26.2.2.2.2.2 p1.toNatClampNeg) o_33 hqo_33 H.size) (va_cwS 2 hts gX12_least_X12_lesser rfl rfl rfl zhd_X12_lesser.2 ⟨Nat.le_of_ble_eq_true rfl, Nat.le_of_ble_eq_true rfl⟩) [] rfl (of_decide_eq_true rfl) [] rfl rfl hl.1 rfl (Nat.le_of_ble_eq_true rfl) dX12_least_87 ⟨Nat.le_of_ble_eq_true rfl, Nat.le_of_ble_eq_true rfl⟩ [] (of_decide_eq_true rfl) (of_decide_eq_true rfl) rfl rfl rfl (fun H locs hP hD hS => ?_)
            refine lv_lstore_n (lv' := [(3, .long o_33), (6, .int s_15.2.1), (5, .int o_11), (0, .ref h0), (1, .int p1), (2, .int p2)]) hx hb dX12_least_90 rfl hl (of_decide_eq_true rfl) rfl (fun ls hl => ?_)
            refine lv_iinc (v := (s_15.2.1 + 1)) (lv' := [(6, .int (s_15.2.1 + 1)), (3, .long o_33), (5, .int o_11), (0, .ref h0), (1, .int p1), (2, .int p2)]) hx hb dX12_least_91 hl (k := 1) rfl rfl (of_decide_eq_true rfl) rfl (fun ls hl => ?_)
            refine lv_goto (tgt := 32) hx hb dX12_least_94 (of_decide_eq_true rfl) ?_
            exact ih_15 (o_33, (s_15.2.1 + 1), o_26.2.1, o_26.2.2.1, o_26.2.2.2.1, o_26.2.2.2.2.1, o_17, o_26.2.2.2.2.2) H locs ls hfn hP hD hS (lv_sub hl [0, 2, 1, 3, 4, 5] rfl)
          have hfn := (if_pos c_31).symm.trans hfn
          refine lv_aload_n hx hb dX12_least_71 rfl (lv_at hl 3 rfl) ?_
          refine va_get (D := (dC, dI)) (ci := 12) (v := .ref (a0 40)) (C := RX12) (T := TX12) (N := 67) hx hb hts zn_X12_least_X12 hown hK hP 0 rfl rfl 40 (of_decide_eq_true rfl) (hts (.fieldLink RX12 135 "ShortEnoughModel" "error" "[J") zw_X12_least_1313) (fun _ h9 => h9) rfl dX12_least_72 ?_
          refine lv_iload_n hx hb dX12_least_75 rfl (lv_at hl 4 rfl) ?_
          obtain ⟨h_37, hfn⟩ := zg_s hfn
          refine va_lald hx hb hK hP 19 18 rfl rfl h_37 dX12_least_76 ?_
          refine lv_goto (tgt := 90) hx hb dX12_least_77 (of_decide_eq_true rfl) ?_
          refine lv_lstore_n (lv' := [(3, .long (o_26.2.2.2.2.2 p1.toNatClampNeg)), (6, .int s_15.2.1), (5, .int o_11), (0, .ref h0), (1, .int p1), (2, .int p2)]) hx hb dX12_least_90 rfl hl (of_decide_eq_true rfl) rfl (fun ls hl => ?_)
          refine lv_iinc (v := (s_15.2.1 + 1)) (lv' := [(6, .int (s_15.2.1 + 1)), (3, .long (o_26.2.2.2.2.2 p1.toNatClampNeg)), (5, .int o_11), (0, .ref h0), (1, .int p1), (2, .int p2)]) hx hb dX12_least_91 hl (k := 1) rfl rfl (of_decide_eq_true rfl) rfl (fun ls hl => ?_)
          refine lv_goto (tgt := 32) hx hb dX12_least_94 (of_decide_eq_true rfl) ?_
          exact ih_15 ((o_26.2.2.2.2.2 p1.toNatClampNeg), (s_15.2.1 + 1), o_26.2.1, o_26.2.2.1, o_26.2.2.2.1, o_26.2.2.2.2.1, o_17, o_26.2.2.2.2.2) H locs ls hfn hP hD hS (lv_sub hl [0, 2, 1, 3, 4, 5] rfl)
        have hfn := (if_pos c_30).symm.trans hfn
        refine lv_goto (tgt := 91) hx hb dX12_least_60 (of_decide_eq_true rfl) ?_
        refine lv_iinc (v := (s_15.2.1 + 1)) (lv' := [(6, .int (s_15.2.1 + 1)), (5, .int o_11), (3, .long s_15.1), (0, .ref h0), (1, .int p1), (2, .int p2)]) hx hb dX12_least_91 hl (k := 0) rfl rfl (of_decide_eq_true rfl) rfl (fun ls hl => ?_)
        refine lv_goto (tgt := 32) hx hb dX12_least_94 (of_decide_eq_true rfl) ?_
        exact ih_15 (s_15.1, (s_15.2.1 + 1), o_26.2.1, o_26.2.2.1, o_26.2.2.2.1, o_26.2.2.2.2.1, o_17, o_26.2.2.2.2.2) H locs ls hfn hP hD hS (lv_sub hl [0, 1, 2, 3, 4, 5] rfl)
    exact lp_15 _ ((-1000000000000000), 0, (b0 41), (b0 42), f14, f17, f8, f19) H locs ls hfn hP hD hS (lv_sub hl [0, 1, 2, 3, 4, 5] rfl)
  have hfn := (if_pos c_10).symm.trans hfn
  refine lv_ldc2 (v := (-1000000000000000)) hx hb hown (hts (.constantLong RX12 381 (-1000000000000000)) zw_X12_least_1311) dX12_least_15 ?_
  have ho := Option.some.inj hfn
  subst ho
  exact zrl hx hb hr hK hP hD hS hQ rfl hlocks dX12_least_18
theorem zw_X12_byteOf_1314 : Cond.constantLong RX12 508 (255) ∈ wsX12_byteOf := List.mem_of_getElem? (i := 1) (by decide +kernel)
set_option maxHeartbeats 4000000 in
set_option maxRecDepth 100000 in
theorem zf_X12_byteOf (l : Launch) (dC : Nat → ClassId) (dI : Nat → Nat → Nat) (j0 : Int64) (p1 : Int32) (o : Int32) (hfn : fn_X12_byteOf j0 p1 = some o) (sz : Nat) : zMi l yX12_byteOf wsX12_byteOf ({ frames := 0, cells := 0, slots := 0, locals := 0 }) (dC, dI) vwCl [.long j0, .int p1] [] [] (fun r _ => r = o) [] [] sz := by
  refine zgoi (cc := cX12_byteOf) (maxL := 3) (ret := (some .int)) (C0 := RX12) (lv0 := [(0, .long j0), (2, .int p1)]) zpl_X12 rfl rfl rfl (Nat.le_of_ble_eq_true rfl) ?_
  intro p e s m below meth c A ls Q hx hb hr hts hown hlocks hml hP hK hD hA hS hl hQ
  unfold fn_X12_byteOf at hfn
  refine lv_lload_n hx hb dX12_byteOf_0 rfl (lv_at hl 0 rfl) ?_
  refine lv_bipush (v := 8) hx hb dX12_byteOf_1 zcb_8 ?_
  refine lv_bipush (v := 7) hx hb dX12_byteOf_3 zcb_7 ?_
  refine lv_iload_n hx hb dX12_byteOf_5 rfl (lv_at hl 1 rfl) ?_
  refine lv_isub hx hb dX12_byteOf_6 ?_
  refine lv_imul hx hb dX12_byteOf_7 ?_
  refine lv_lshr (v := (j0 >>> ((8 * (7 - p1)).toInt64 &&& 63))) hx hb dX12_byteOf_8 rfl ?_
  refine lv_ldc2 (v := 255) hx hb hown (hts (.constantLong RX12 508 (255)) zw_X12_byteOf_1314) dX12_byteOf_9 ?_
  refine lv_land hx hb dX12_byteOf_12 ?_
  refine lv_l2i (v := ((j0 >>> ((8 * (7 - p1)).toInt64 &&& 63)) &&& (255 : Int64)).toInt32) hx hb dX12_byteOf_13 rfl ?_
  have ho := Option.some.inj hfn
  subst ho
  exact zri hx hb hr hK hP hD hS hQ rfl hlocks dX12_byteOf_14
theorem zn_X12_certificate_X12 : ∀ w ∈ wsX120, w ∈ wsX12_certificate := fun _ h => List.mem_cons_of_mem _ (List.mem_append_right _ h)
theorem zw_X12_certificate_1316 : Cond.fieldLink RX12 62 "ShortEnoughModel" "numbers" "[I" ∈ wsX12_certificate := List.mem_of_getElem? (i := 1) (by decide +kernel)
theorem zw_X12_certificate_1317 : Cond.fieldLink RX12 135 "ShortEnoughModel" "error" "[J" ∈ wsX12_certificate := List.mem_of_getElem? (i := 5) (by decide +kernel)
theorem zw_X12_certificate_1318 : Cond.fieldLink RX12 109 "ShortEnoughModel" "greatest" "[J" ∈ wsX12_certificate := List.mem_of_getElem? (i := 4) (by decide +kernel)
theorem zw_X12_certificate_1319 : Cond.fieldLink RX12 106 "ShortEnoughModel" "least" "[J" ∈ wsX12_certificate := List.mem_of_getElem? (i := 3) (by decide +kernel)
theorem zw_X12_certificate_1320 : Cond.fieldLink RX12 125 "ShortEnoughModel" "hand" "[I" ∈ wsX12_certificate := List.mem_of_getElem? (i := 2) (by decide +kernel)
set_option maxHeartbeats 4000000 in
set_option maxRecDepth 100000 in
theorem zf_X12_certificate (l : Launch) (dC : Nat → ClassId) (dI : Nat → Nat → Nat) (h0 : Nat) (p1 : Int32) (a0 : Nat → Nat) (b0 : Nat → Int32) (c0 : Nat → Int64) (k1 : Nat) (f1 : Nat → Int32) (k2 : Nat) (f2 : Nat → Int32) (k3 : Nat) (f3 : Nat → Int32) (k4 : Nat) (f4 : Nat → Int32) (k5 : Nat) (f5 : Nat → Int32) (k6 : Nat) (f6 : Nat → Int32) (k7 : Nat) (f7 : Nat → Int64) (k8 : Nat) (f8 : Nat → Int64) (k9 : Nat) (f9 : Nat → Int64) (k10 : Nat) (f10 : Nat → Int64) (k11 : Nat) (f11 : Nat → Int32) (k12 : Nat) (f12 : Nat → Int64) (k13 : Nat) (f13 : Nat → Int32) (k14 : Nat) (f14 : Nat → Int32) (o : Int32 × Int32 × Int32 × Int32 × (Nat → Int32) × (Nat → Int64) × (Nat → Int64) × (Nat → Int64)) (hfn : fn_X12_certificate p1 (c0 34) (b0 38) (b0 41) (b0 42) f1 f2 f3 f4 f5 f6 f7 f8 f9 f10 f11 f12 f13 f14 = some o) (sz : Nat) : zMi l yX12_certificate wsX12_certificate ({ frames := 6, cells := 0, slots := 0, locals := 154 }) (dC, dI) vwCl [.ref h0, .int p1] [(h0, .inr (12, zO a0 b0 c0)), zVi (a0 17) k1 2 f1, zVi (a0 37) k2 14 f2, zVi (a0 39) k3 14 f3, zVi (a0 19) k4 28 f4, zVi (a0 20) k5 28 f5, zVi (a0 21) k6 28 f6, zVl (a0 31) k7 14 f7, zVl (a0 22) k8 28 f8, zVl (a0 23) k9 28 f9, zVl (a0 32) k10 14 f10, zVi (a0 14) k11 8 f11, zVl (a0 40) k12 14 f12, zVi (a0 15) k13 8 f13, zVi (a0 26) k14 28 f14] [(k1, .int), (k2, .int), (k3, .int), (k4, .int), (k5, .int), (k6, .int), (k7, .long), (k8, .long), (k9, .long), (k10, .long), (k11, .int), (k12, .long), (k13, .int), (k14, .int)] (fun r _ => r = o.1) [(h0, .inr (12, zO a0 (zI (zI (zI b0 33 o.2.1) 41 o.2.2.1) 42 o.2.2.2.1) c0)), zVi (a0 17) k1 2 f1, zVi (a0 37) k2 14 f2, zVi (a0 39) k3 14 o.2.2.2.2.1, zVi (a0 19) k4 28 f4, zVi (a0 20) k5 28 f5, zVi (a0 21) k6 28 f6, zVl (a0 31) k7 14 o.2.2.2.2.2.1, zVl (a0 22) k8 28 f8, zVl (a0 23) k9 28 f9, zVl (a0 32) k10 14 o.2.2.2.2.2.2.1, zVi (a0 14) k11 8 f11, zVl (a0 40) k12 14 o.2.2.2.2.2.2.2, zVi (a0 15) k13 8 f13, zVi (a0 26) k14 28 f14] [(k1, .int), (k2, .int), (k3, .int), (k4, .int), (k5, .int), (k6, .int), (k7, .long), (k8, .long), (k9, .long), (k10, .long), (k11, .int), (k12, .long), (k13, .int), (k14, .int)] sz := by
  refine zgoi (cc := cX12_certificate) (maxL := 4) (ret := (some .int)) (C0 := RX12) (lv0 := [(0, .ref h0), (1, .int p1)]) zpl_X12 rfl rfl rfl (Nat.le_of_ble_eq_true rfl) ?_
  intro p e s m below meth c A ls Q hx hb hr hts hown hlocks hml hP hK hD hA hS hl hQ
  unfold fn_X12_certificate at hfn
  refine lv_aload_n hx hb dX12_certificate_0 rfl (lv_at hl 0 rfl) ?_
  obtain ⟨o_1, hqo_1, hfn⟩ := zb_s hfn
  refine zcVb (ci := 12) (rest := []) (pc' := 4) (ws' := [(h0, .inr (12, zO a0 (zI (zI (zI b0 33 o_1.2.1) 41 o_1.2.2.1) 42 o_1.2.2.2.1) c0)), zVi (a0 17) k1 2 f1, zVi (a0 37) k2 14 f2, zVi (a0 39) k3 14 o_1.2.2.2.2.1, zVi (a0 19) k4 28 f4, zVi (a0 20) k5 28 f5, zVi (a0 21) k6 28 f6, zVl (a0 31) k7 14 o_1.2.2.2.2.2.1, zVl (a0 22) k8 28 f8, zVl (a0 23) k9 28 f9, zVl (a0 32) k10 14 o_1.2.2.2.2.2.2.1, zVi (a0 14) k11 8 f11, zVl (a0 40) k12 14 o_1.2.2.2.2.2.2.2, zVi (a0 15) k13 8 f13, zVi (a0 26) k14 28 f14]) hP hK hD hS hA ⟨hx, hb, hml, hown, hts⟩ (zf_X12_handPasses l dC dI h0 a0 b0 c0 k1 f1 k2 f2 k3 f3 k4 f4 k5 f5 k6 f6 k7 f7 k8 f8 k9 f9 k10 f10 k11 f11 k12 f12 k13 f13 k14 f14 o_1 hqo_1 s.heap.size) (cwV 0 hts gX12_certificate_X12_handPasses rfl rfl rfl zhd_X12_handPasses ⟨Nat.le_of_ble_eq_true rfl, Nat.le_of_ble_eq_true rfl⟩) [0, 1, 2, 3, 4, 5, 6, 7, 8, 9, 10, 11, 12, 13, 14] rfl (of_decide_eq_true rfl) [0, 1, 2, 3, 4, 5, 6, 7, 8, 9, 10, 11, 12, 13] rfl rfl rfl rfl hl.1 rfl (Nat.le_of_ble_eq_true rfl) dX12_certificate_1 ⟨Nat.le_of_ble_eq_true rfl, Nat.le_of_ble_eq_true rfl⟩ [some 0, some 1, some 2, some 3, some 4, some 5, some 6, some 7, some 8, some 9, some 10, some 11, some 12, some 13, some 14] (of_decide_eq_true rfl) (of_decide_eq_true rfl) rfl rfl rfl (fun H locs hw_4n hP hD hS => ?_)
  refine lv_if_eq (tgt := 28) hx hb dX12_certificate_4 (of_decide_eq_true rfl) (fun c_5 => ?_) (fun c_5 => ?_)
  · have hfn := (if_pos c_5).symm.trans hfn
    refine lv_iconst (v := (-1)) hx hb dX12_certificate_28 zci_m1 ?_
    have ho := Option.some.inj hfn
    subst ho
    exact zri hx hb hr hK hP hD hS hQ rfl hlocks dX12_certificate_29
  have hfn := (if_neg c_5).symm.trans hfn
  refine lv_iload_n hx hb dX12_certificate_7 rfl (lv_at hl 1 rfl) ?_
  refine lv_i2l (v := p1.toInt64) hx hb dX12_certificate_8 rfl ?_
  refine lv_lconst (v := 0) hx hb dX12_certificate_9 (by decide +kernel) ?_
  refine lv_bipush (v := 25) hx hb dX12_certificate_10 zcb_25 ?_
  refine lv_aload_n hx hb dX12_certificate_12 rfl (lv_at hl 0 rfl) ?_
  refine va_get (D := (dC, dI)) (ci := 12) (v := .ref (a0 17)) (C := RX12) (T := TX12) (N := 67) hx hb hts zn_X12_certificate_X12 hown hK hP 0 rfl rfl 17 (of_decide_eq_true rfl) (hts (.fieldLink RX12 62 "ShortEnoughModel" "numbers" "[I") zw_X12_certificate_1316) (fun _ h9 => h9) rfl dX12_certificate_13 ?_
  refine lv_iconst (v := 0) hx hb dX12_certificate_16 zci_0 ?_
  refine va_iald hx hb hK hP 1 0 rfl rfl (zv_in (by decide +kernel)) dX12_certificate_17 ?_
  refine lv_imul hx hb dX12_certificate_18 ?_
  refine lv_i2l (v := (25 * (f1 (0 : Int32).toNatClampNeg)).toInt64) hx hb dX12_certificate_19 rfl ?_
  refine lv_lconst (v := 1) hx hb dX12_certificate_20 (by decide +kernel) ?_
  refine lv_lsub hx hb dX12_certificate_21 ?_
  obtain ⟨o_6, hqo_6, hfn⟩ := zb_s hfn
  refine zcSb (rest := []) (pc' := 25) (ws' := [(h0, .inr (12, zO a0 (zI (zI (zI b0 33 o_1.2.1) 41 o_1.2.2.1) 42 o_1.2.2.2.1) c0)), zVi (a0 17) k1 2 f1, zVi (a0 37) k2 14 f2, zVi (a0 39) k3 14 o_1.2.2.2.2.1, zVi (a0 19) k4 28 f4, zVi (a0 20) k5 28 f5, zVi (a0 21) k6 28 f6, zVl (a0 31) k7 14 o_1.2.2.2.2.2.1, zVl (a0 22) k8 28 f8, zVl (a0 23) k9 28 f9, zVl (a0 32) k10 14 o_1.2.2.2.2.2.2.1, zVi (a0 14) k11 8 f11, zVl (a0 40) k12 14 o_1.2.2.2.2.2.2.2, zVi (a0 15) k13 8 f13, zVi (a0 26) k14 28 f14]) hP hK hD hS hA ⟨hx, hb, hml, hown, hts⟩ (zf_X12_isIn l dC dI p1.toInt64 (0 : Int64) ((25 * (f1 (0 : Int32).toNatClampNeg)).toInt64 - (1 : Int64)) o_6 hqo_6 H.size) (va_cwS 3 hts gX12_certificate_X12_isIn rfl rfl rfl zhd_X12_isIn.2 ⟨Nat.le_of_ble_eq_true rfl, Nat.le_of_ble_eq_true rfl⟩) [] rfl (of_decide_eq_true rfl) [] rfl rfl hl.1 rfl (Nat.le_of_ble_eq_true rfl) dX12_certificate_22 ⟨Nat.le_of_ble_eq_true rfl, Nat.le_of_ble_eq_true rfl⟩ [] (of_decide_eq_true rfl) (of_decide_eq_true rfl) rfl rfl rfl (fun H locs hw_9n hP hD hS => ?_)
  refine lv_if_ne (tgt := 30) hx hb dX12_certificate_25 (of_decide_eq_true rfl) (fun c_10 => ?_) (fun c_10 => ?_)
  · have hfn := (if_neg c_10).symm.trans hfn
    refine lv_iload_n hx hb dX12_certificate_30 rfl (lv_at hl 1 rfl) ?_
    refine lv_bipush (v := 25) hx hb dX12_certificate_31 zcb_25 ?_
    refine lv_idiv hx hb dX12_certificate_33 (by decide +kernel) ?_
    refine lv_istore_n (lv' := [(2, .int (p1 / 25)), (0, .ref h0), (1, .int p1)]) hx hb dX12_certificate_34 rfl hl (of_decide_eq_true rfl) rfl (fun ls hl => ?_)
    refine lv_iload_n hx hb dX12_certificate_35 rfl (lv_at hl 2 rfl) ?_
    refine lv_bipush (v := 25) hx hb dX12_certificate_36 zcb_25 ?_
    refine lv_irem hx hb dX12_certificate_38 (by decide +kernel) ?_
    refine lv_istore_n (lv' := [(3, .int (p1 - p1 / 25 * 25)), (2, .int (p1 / 25)), (0, .ref h0), (1, .int p1)]) hx hb dX12_certificate_39 rfl hl (of_decide_eq_true rfl) rfl (fun ls hl => ?_)
    refine lv_iload_n hx hb dX12_certificate_40 rfl (lv_at hl 0 rfl) ?_
    refine lv_if_ne (tgt := 51) hx hb dX12_certificate_41 (of_decide_eq_true rfl) (fun c_11 => ?_) (fun c_11 => ?_)
    · have hfn := (if_neg c_11).symm.trans hfn
      refine lv_iload_n hx hb dX12_certificate_51 rfl (lv_at hl 0 rfl) ?_
      refine lv_bipush (v := 9) hx hb dX12_certificate_52 zcb_9 ?_
      refine lv_icmp_ge (tgt := 72) hx hb dX12_certificate_54 (of_decide_eq_true rfl) (fun c_12 => ?_) (fun c_12 => ?_)
      · have hfn := (if_pos c_12).symm.trans hfn
        refine lv_iload_n hx hb dX12_certificate_72 rfl (lv_at hl 0 rfl) ?_
        refine lv_bipush (v := 17) hx hb dX12_certificate_73 zcb_17 ?_
        refine lv_icmp_ge (tgt := 94) hx hb dX12_certificate_75 (of_decide_eq_true rfl) (fun c_13 => ?_) (fun c_13 => ?_)
        · have hfn := (if_pos c_13).symm.trans hfn
          refine lv_aload_n hx hb dX12_certificate_94 rfl (lv_at hl 2 rfl) ?_
          refine va_get (D := (dC, dI)) (ci := 12) (v := .ref (a0 40)) (C := RX12) (T := TX12) (N := 67) hx hb hts zn_X12_certificate_X12 hown hK hP 0 rfl rfl 40 (of_decide_eq_true rfl) (hts (.fieldLink RX12 135 "ShortEnoughModel" "error" "[J") zw_X12_certificate_1317) (fun _ h9 => h9) rfl dX12_certificate_95 ?_
          refine lv_iload_n hx hb dX12_certificate_98 rfl (lv_at hl 1 rfl) ?_
          obtain ⟨h_14, hfn⟩ := zg_s hfn
          refine va_lald hx hb hK hP 12 11 rfl rfl h_14 dX12_certificate_99 ?_
          refine lv_iload_n hx hb dX12_certificate_100 rfl (lv_at hl 0 rfl) ?_
          refine lv_bipush (v := 17) hx hb dX12_certificate_101 zcb_17 ?_
          refine lv_isub hx hb dX12_certificate_103 ?_
          obtain ⟨o_15, hqo_15, hfn⟩ := zb_s hfn
          refine zcSi (rest := []) (pc' := 107) (ws' := [(h0, .inr (12, zO a0 (zI (zI (zI b0 33 o_1.2.1) 41 o_1.2.2.1) 42 o_1.2.2.2.1) c0)), zVi (a0 17) k1 2 f1, zVi (a0 37) k2 14 f2, zVi (a0 39) k3 14 o_1.2.2.2.2.1, zVi (a0 19) k4 28 f4, zVi (a0 20) k5 28 f5, zVi (a0 21) k6 28 f6, zVl (a0 31) k7 14 o_1.2.2.2.2.2.1, zVl (a0 22) k8 28 f8, zVl (a0 23) k9 28 f9, zVl (a0 32) k10 14 o_1.2.2.2.2.2.2.1, zVi (a0 14) k11 8 f11, zVl (a0 40) k12 14 o_1.2.2.2.2.2.2.2, zVi (a0 15) k13 8 f13, zVi (a0 26) k14 28 f14]) hP hK hD hS hA ⟨hx, hb, hml, hown, hts⟩ (zf_X12_byteOf l dC dI (o_1.2.2.2.2.2.2.2 (p1 / 25).toNatClampNeg) ((p1 - p1 / 25 * 25) - 17) o_15 hqo_15 H.size) (va_cwS 2 hts gX12_certificate_X12_byteOf rfl rfl rfl zhd_X12_byteOf.2 ⟨Nat.le_of_ble_eq_true rfl, Nat.le_of_ble_eq_true rfl⟩) [] rfl (of_decide_eq_true rfl) [] rfl rfl hl.1 rfl (Nat.le_of_ble_eq_true rfl) dX12_certificate_104 ⟨Nat.le_of_ble_eq_true rfl, Nat.le_of_ble_eq_true rfl⟩ [] (of_decide_eq_true rfl) (of_decide_eq_true rfl) rfl rfl rfl (fun H locs hP hD hS => ?_)
          have ho := Option.some.inj hfn
          subst ho
          exact zri hx hb hr hK hP hD hS hQ rfl hlocks dX12_certificate_107
        have hfn := (if_neg c_13).symm.trans hfn
        refine lv_aload_n hx hb dX12_certificate_78 rfl (lv_at hl 2 rfl) ?_
        refine va_get (D := (dC, dI)) (ci := 12) (v := .ref (a0 32)) (C := RX12) (T := TX12) (N := 67) hx hb hts zn_X12_certificate_X12 hown hK hP 0 rfl rfl 32 (of_decide_eq_true rfl) (hts (.fieldLink RX12 109 "ShortEnoughModel" "greatest" "[J") zw_X12_certificate_1318) (fun _ h9 => h9) rfl dX12_certificate_79 ?_
        refine lv_iload_n hx hb dX12_certificate_82 rfl (lv_at hl 1 rfl) ?_
        obtain ⟨h_19, hfn⟩ := zg_s hfn
        refine va_lald hx hb hK hP 10 9 rfl rfl h_19 dX12_certificate_83 ?_
        refine lv_iload_n hx hb dX12_certificate_84 rfl (lv_at hl 0 rfl) ?_
        refine lv_bipush (v := 9) hx hb dX12_certificate_85 zcb_9 ?_
        refine lv_isub hx hb dX12_certificate_87 ?_
        obtain ⟨o_20, hqo_20, hfn⟩ := zb_s hfn
        refine zcSi (rest := []) (pc' := 91) (ws' := [(h0, .inr (12, zO a0 (zI (zI (zI b0 33 o_1.2.1) 41 o_1.2.2.1) 42 o_1.2.2.2.1) c0)), zVi (a0 17) k1 2 f1, zVi (a0 37) k2 14 f2, zVi (a0 39) k3 14 o_1.2.2.2.2.1, zVi (a0 19) k4 28 f4, zVi (a0 20) k5 28 f5, zVi (a0 21) k6 28 f6, zVl (a0 31) k7 14 o_1.2.2.2.2.2.1, zVl (a0 22) k8 28 f8, zVl (a0 23) k9 28 f9, zVl (a0 32) k10 14 o_1.2.2.2.2.2.2.1, zVi (a0 14) k11 8 f11, zVl (a0 40) k12 14 o_1.2.2.2.2.2.2.2, zVi (a0 15) k13 8 f13, zVi (a0 26) k14 28 f14]) hP hK hD hS hA ⟨hx, hb, hml, hown, hts⟩ (zf_X12_byteOf l dC dI (o_1.2.2.2.2.2.2.1 (p1 / 25).toNatClampNeg) ((p1 - p1 / 25 * 25) - 9) o_20 hqo_20 H.size) (va_cwS 2 hts gX12_certificate_X12_byteOf rfl rfl rfl zhd_X12_byteOf.2 ⟨Nat.le_of_ble_eq_true rfl, Nat.le_of_ble_eq_true rfl⟩) [] rfl (of_decide_eq_true rfl) [] rfl rfl hl.1 rfl (Nat.le_of_ble_eq_true rfl) dX12_certificate_88 ⟨Nat.le_of_ble_eq_true rfl, Nat.le_of_ble_eq_true rfl⟩ [] (of_decide_eq_true rfl) (of_decide_eq_true rfl) rfl rfl rfl (fun H locs hP hD hS => ?_)
        refine lv_goto (tgt := 107) hx hb dX12_certificate_91 (of_decide_eq_true rfl) ?_
        have ho := Option.some.inj hfn
        subst ho
        exact zri hx hb hr hK hP hD hS hQ rfl hlocks dX12_certificate_107
      have hfn := (if_neg c_12).symm.trans hfn
      refine lv_aload_n hx hb dX12_certificate_57 rfl (lv_at hl 2 rfl) ?_
      refine va_get (D := (dC, dI)) (ci := 12) (v := .ref (a0 31)) (C := RX12) (T := TX12) (N := 67) hx hb hts zn_X12_certificate_X12 hown hK hP 0 rfl rfl 31 (of_decide_eq_true rfl) (hts (.fieldLink RX12 106 "ShortEnoughModel" "least" "[J") zw_X12_certificate_1319) (fun _ h9 => h9) rfl dX12_certificate_58 ?_
      refine lv_iload_n hx hb dX12_certificate_61 rfl (lv_at hl 1 rfl) ?_
      obtain ⟨h_24, hfn⟩ := zg_s hfn
      refine va_lald hx hb hK hP 7 6 rfl rfl h_24 dX12_certificate_62 ?_
      refine lv_iload_n hx hb dX12_certificate_63 rfl (lv_at hl 0 rfl) ?_
      refine lv_iconst (v := 1) hx hb dX12_certificate_64 zci_1 ?_
      refine lv_isub hx hb dX12_certificate_65 ?_
      obtain ⟨o_25, hqo_25, hfn⟩ := zb_s hfn
      refine zcSi (rest := []) (pc' := 69) (ws' := [(h0, .inr (12, zO a0 (zI (zI (zI b0 33 o_1.2.1) 41 o_1.2.2.1) 42 o_1.2.2.2.1) c0)), zVi (a0 17) k1 2 f1, zVi (a0 37) k2 14 f2, zVi (a0 39) k3 14 o_1.2.2.2.2.1, zVi (a0 19) k4 28 f4, zVi (a0 20) k5 28 f5, zVi (a0 21) k6 28 f6, zVl (a0 31) k7 14 o_1.2.2.2.2.2.1, zVl (a0 22) k8 28 f8, zVl (a0 23) k9 28 f9, zVl (a0 32) k10 14 o_1.2.2.2.2.2.2.1, zVi (a0 14) k11 8 f11, zVl (a0 40) k12 14 o_1.2.2.2.2.2.2.2, zVi (a0 15) k13 8 f13, zVi (a0 26) k14 28 f14]) hP hK hD hS hA ⟨hx, hb, hml, hown, hts⟩ (zf_X12_byteOf l dC dI (o_1.2.2.2.2.2.1 (p1 / 25).toNatClampNeg) ((p1 - p1 / 25 * 25) - 1) o_25 hqo_25 H.size) (va_cwS 2 hts gX12_certificate_X12_byteOf rfl rfl rfl zhd_X12_byteOf.2 ⟨Nat.le_of_ble_eq_true rfl, Nat.le_of_ble_eq_true rfl⟩) [] rfl (of_decide_eq_true rfl) [] rfl rfl hl.1 rfl (Nat.le_of_ble_eq_true rfl) dX12_certificate_66 ⟨Nat.le_of_ble_eq_true rfl, Nat.le_of_ble_eq_true rfl⟩ [] (of_decide_eq_true rfl) (of_decide_eq_true rfl) rfl rfl rfl (fun H locs hP hD hS => ?_)
      refine lv_goto (tgt := 107) hx hb dX12_certificate_69 (of_decide_eq_true rfl) ?_
      have ho := Option.some.inj hfn
      subst ho
      exact zri hx hb hr hK hP hD hS hQ rfl hlocks dX12_certificate_107
    have hfn := (if_pos c_11).symm.trans hfn
    refine lv_aload_n hx hb dX12_certificate_44 rfl (lv_at hl 2 rfl) ?_
    refine va_get (D := (dC, dI)) (ci := 12) (v := .ref (a0 37)) (C := RX12) (T := TX12) (N := 67) hx hb hts zn_X12_certificate_X12 hown hK hP 0 rfl rfl 37 (of_decide_eq_true rfl) (hts (.fieldLink RX12 125 "ShortEnoughModel" "hand" "[I") zw_X12_certificate_1320) (fun _ h9 => h9) rfl dX12_certificate_45 ?_
    refine lv_iload_n hx hb dX12_certificate_48 rfl (lv_at hl 1 rfl) ?_
    obtain ⟨h_29, hfn⟩ := zg_s hfn
    refine va_iald hx hb hK hP 2 1 rfl rfl h_29 dX12_certificate_49 ?_
    have ho := Option.some.inj hfn
    subst ho
    exact zri hx hb hr hK hP hD hS hQ rfl hlocks dX12_certificate_50
  have hfn := (if_pos c_10).symm.trans hfn
  refine lv_iconst (v := (-1)) hx hb dX12_certificate_28 zci_m1 ?_
  have ho := Option.some.inj hfn
  subst ho
  exact zri hx hb hr hK hP hD hS hQ rfl hlocks dX12_certificate_29
theorem zn_X12_readsLong_X12 : ∀ w ∈ wsX120, w ∈ wsX12_readsLong := fun _ h => List.mem_cons_of_mem _ (List.mem_append_right _ h)
theorem zw_X12_readsLong_1322 : Cond.fieldLink RX12 7 "ShortEnoughModel" "tape" "[I" ∈ wsX12_readsLong := List.mem_of_getElem? (i := 1) (by decide +kernel)
theorem zw_X12_readsLong_1323 : Cond.constantLong RX12 514 (1000000000000) ∈ wsX12_readsLong := List.mem_of_getElem? (i := 2) (by decide +kernel)
theorem zw_X12_readsLong_1324 : Cond.constantLong RX12 516 (-1000000000000) ∈ wsX12_readsLong := List.mem_of_getElem? (i := 3) (by decide +kernel)
set_option maxHeartbeats 4000000 in
set_option maxRecDepth 100000 in
theorem zf_X12_readsLong (l : Launch) (dC : Nat → ClassId) (dI : Nat → Nat → Nat) (h0 : Nat) (p1 : Int32) (a0 : Nat → Nat) (b0 : Nat → Int32) (c0 : Nat → Int64) (k1 : Nat) (f1 : Nat → Int32) (o : Int64) (hfn : fn_X12_readsLong p1 f1 = some o) (sz : Nat) : zMl l yX12_readsLong wsX12_readsLong ({ frames := 0, cells := 0, slots := 0, locals := 0 }) (dC, dI) vwCl [.ref h0, .int p1] [(h0, .inr (12, zO a0 b0 c0)), zVi (a0 0) k1 1200 f1] [(k1, .int)] (fun r _ => r = o) [(h0, .inr (12, zO a0 b0 c0)), zVi (a0 0) k1 1200 f1] [(k1, .int)] sz := by
  refine zgol (cc := cX12_readsLong) (maxL := 5) (ret := (some .long)) (C0 := RX12) (lv0 := [(0, .ref h0), (1, .int p1)]) zpl_X12 rfl rfl rfl (Nat.le_of_ble_eq_true rfl) ?_
  intro p e s m below meth c A ls Q hx hb hr hts hown hlocks hml hP hK hD hA hS hl hQ
  unfold fn_X12_readsLong at hfn
  refine lv_lconst (v := 0) hx hb dX12_readsLong_0 (by decide +kernel) ?_
  refine lv_lstore_n (lv' := [(2, .long 0), (0, .ref h0), (1, .int p1)]) hx hb dX12_readsLong_1 rfl hl (of_decide_eq_true rfl) rfl (fun ls hl => ?_)
  refine lv_iconst (v := 0) hx hb dX12_readsLong_2 zci_0 ?_
  refine lv_istore (lv' := [(4, .int 0), (2, .long 0), (0, .ref h0), (1, .int p1)]) hx hb dX12_readsLong_3 hl (of_decide_eq_true rfl) rfl (fun ls hl => ?_)
  obtain ⟨bd_1, ebd_1, hfn⟩ := zl_g hfn
  have lp_1 : ∀ (n : Nat) (s_1 : Int64 × Int32) (H : Heap) (locs : List Loc) (ls : Array Slot), zl bd_1 n s_1 = some o → va_P (dC, dI) vwCl [(h0, .inr (12, zO a0 b0 c0)), zVi (a0 0) k1 1200 f1] H → va_D A [(h0, .inr (12, zO a0 b0 c0)), zVi (a0 0) k1 1200 f1] → va_S A s.heap H locs → lv_has ls 5 [(4, .int s_1.2), (2, .long s_1.1), (0, .ref h0), (1, .int p1)] → W p l e (headSpec wsX12_readsLong ({ frames := 0, cells := 0, slots := 0, locals := 0 })).room s m ([.ref h0, .int p1] : List Value).toArray below meth c H locs 0 0 Q (F0 m 5 ls []) := by
    intro n
    induction n with
    | zero => exact fun _ _ _ _ hfn => (zl_0 hfn).elim
    | succ n ih_1 =>
      intro s_1 H locs ls hfn hP hD hS hl
      have hfn := zl_s ebd_1 hfn
      refine lv_iload hx hb dX12_readsLong_5 (lv_at hl 0 rfl) ?_
      refine lv_bipush (v := 8) hx hb dX12_readsLong_7 zcb_8 ?_
      refine lv_icmp_ge (tgt := 34) hx hb dX12_readsLong_9 (of_decide_eq_true rfl) (fun c_2 => ?_) (fun c_2 => ?_)
      · have hfn := (if_pos c_2).symm.trans hfn
        refine lv_lload_n hx hb dX12_readsLong_34 rfl (lv_at hl 1 rfl) ?_
        refine lv_ldc2 (v := 1000000000000) hx hb hown (hts (.constantLong RX12 514 (1000000000000)) zw_X12_readsLong_1323) dX12_readsLong_35 ?_
        refine W.lcmp hx hb dX12_readsLong_38 ?_
        refine lv_if_le (tgt := 48) hx hb dX12_readsLong_39 (of_decide_eq_true rfl) (fun c_3 => ?_) (fun c_3 => ?_)
        · have hfn := (if_pos c_3).symm.trans hfn
          refine lv_lload_n hx hb dX12_readsLong_48 rfl (lv_at hl 1 rfl) ?_
          refine lv_ldc2 (v := (-1000000000000)) hx hb hown (hts (.constantLong RX12 516 (-1000000000000)) zw_X12_readsLong_1324) dX12_readsLong_49 ?_
          refine W.lcmp hx hb dX12_readsLong_52 ?_
          refine lv_if_ge (tgt := 62) hx hb dX12_readsLong_53 (of_decide_eq_true rfl) (fun c_4 => ?_) (fun c_4 => ?_)
          · have hfn := (if_pos c_4).symm.trans hfn
            refine lv_lload_n hx hb dX12_readsLong_62 rfl (lv_at hl 1 rfl) ?_
            have ho := Option.some.inj hfn
            subst ho
            exact zrl hx hb hr hK hP hD hS hQ rfl hlocks dX12_readsLong_63
          have hfn := (if_neg c_4).symm.trans hfn
          refine lv_ldc2 (v := (-1000000000000)) hx hb hown (hts (.constantLong RX12 516 (-1000000000000)) zw_X12_readsLong_1324) dX12_readsLong_56 ?_
          refine lv_goto (tgt := 63) hx hb dX12_readsLong_59 (of_decide_eq_true rfl) ?_
          have ho := Option.some.inj hfn
          subst ho
          exact zrl hx hb hr hK hP hD hS hQ rfl hlocks dX12_readsLong_63
        have hfn := (if_neg c_3).symm.trans hfn
        refine lv_ldc2 (v := 1000000000000) hx hb hown (hts (.constantLong RX12 514 (1000000000000)) zw_X12_readsLong_1323) dX12_readsLong_42 ?_
        refine lv_goto (tgt := 63) hx hb dX12_readsLong_45 (of_decide_eq_true rfl) ?_
        have ho := Option.some.inj hfn
        subst ho
        exact zrl hx hb hr hK hP hD hS hQ rfl hlocks dX12_readsLong_63
      have hfn := (if_neg c_2).symm.trans hfn
      refine lv_lload_n hx hb dX12_readsLong_12 rfl (lv_at hl 1 rfl) ?_
      refine lv_bipush (v := 8) hx hb dX12_readsLong_13 zcb_8 ?_
      refine lv_lshl (v := (s_1.1 <<< ((8 : Int32).toInt64 &&& 63))) hx hb dX12_readsLong_15 rfl ?_
      refine lv_aload_n hx hb dX12_readsLong_16 rfl (lv_at hl 2 rfl) ?_
      refine va_get (D := (dC, dI)) (ci := 12) (v := .ref (a0 0)) (C := RX12) (T := TX12) (N := 67) hx hb hts zn_X12_readsLong_X12 hown hK hP 0 rfl rfl 0 (of_decide_eq_true rfl) (hts (.fieldLink RX12 7 "ShortEnoughModel" "tape" "[I") zw_X12_readsLong_1322) (fun _ h9 => h9) rfl dX12_readsLong_17 ?_
      refine lv_iload_n hx hb dX12_readsLong_20 rfl (lv_at hl 3 rfl) ?_
      refine lv_iload hx hb dX12_readsLong_21 (lv_at hl 0 rfl) ?_
      refine lv_iadd hx hb dX12_readsLong_23 ?_
      obtain ⟨h_5, hfn⟩ := zg_s hfn
      refine va_iald hx hb hK hP 1 0 rfl rfl h_5 dX12_readsLong_24 ?_
      refine lv_i2l (v := (f1 (p1 + s_1.2).toNatClampNeg).toInt64) hx hb dX12_readsLong_25 rfl ?_
      refine lv_lor hx hb dX12_readsLong_26 ?_
      refine lv_topl (fun x_6 ex_6 => ?_)
      have hfn := zn_s hfn ex_6
      refine lv_lstore_n (lv' := [(2, .long x_6), (4, .int s_1.2), (0, .ref h0), (1, .int p1)]) hx hb dX12_readsLong_27 rfl hl (of_decide_eq_true rfl) rfl (fun ls hl => ?_)
      refine lv_iinc (v := (s_1.2 + 1)) (lv' := [(4, .int (s_1.2 + 1)), (2, .long x_6), (0, .ref h0), (1, .int p1)]) hx hb dX12_readsLong_28 hl (k := 1) rfl rfl (of_decide_eq_true rfl) rfl (fun ls hl => ?_)
      refine lv_goto (tgt := 5) hx hb dX12_readsLong_31 (of_decide_eq_true rfl) ?_
      exact ih_1 (x_6, (s_1.2 + 1)) H locs ls hfn hP hD hS (lv_sub hl [0, 1, 2, 3] rfl)
  exact lp_1 _ (0, 0) s.heap [] ls hfn hP hD hS (lv_sub hl [0, 1, 2, 3] rfl)
theorem zn_X12_isFormatSaid_X12 : ∀ w ∈ wsX120, w ∈ wsX12_isFormatSaid := fun _ h => List.mem_cons_of_mem _ (List.mem_append_right _ h)
theorem zw_X12_isFormatSaid_1326 : Cond.fieldLink RX12 195 "ShortEnoughModel" "saysFormat" "[I" ∈ wsX12_isFormatSaid := List.mem_of_getElem? (i := 1) (by decide +kernel)
theorem zw_X12_isFormatSaid_1327 : Cond.fieldLink RX12 62 "ShortEnoughModel" "numbers" "[I" ∈ wsX12_isFormatSaid := List.mem_of_getElem? (i := 2) (by decide +kernel)
theorem zw_X12_isFormatSaid_1328 : Cond.fieldLink RX12 93 "ShortEnoughModel" "groupOf" "[I" ∈ wsX12_isFormatSaid := List.mem_of_getElem? (i := 3) (by decide +kernel)
theorem zw_X12_isFormatSaid_1329 : Cond.fieldLink RX12 87 "ShortEnoughModel" "fixedAs" "[I" ∈ wsX12_isFormatSaid := List.mem_of_getElem? (i := 4) (by decide +kernel)
set_option maxHeartbeats 4000000 in
set_option maxRecDepth 100000 in
theorem zf_X12_isFormatSaid (l : Launch) (dC : Nat → ClassId) (dI : Nat → Nat → Nat) (h0 : Nat) (p1 : Int32) (a0 : Nat → Nat) (b0 : Nat → Int32) (c0 : Nat → Int64) (k1 : Nat) (f1 : Nat → Int32) (k2 : Nat) (f2 : Nat → Int32) (k3 : Nat) (f3 : Nat → Int32) (k4 : Nat) (f4 : Nat → Int32) (k5 : Nat) (f5 : Nat → Int32) (o : Int32) (hfn : fn_X12_isFormatSaid p1 f1 f2 f3 f4 f5 = some o) (sz : Nat) : zMi l yX12_isFormatSaid wsX12_isFormatSaid ({ frames := 2, cells := 0, slots := 0, locals := 46 }) (dC, dI) vwCl [.ref h0, .int p1] [(h0, .inr (12, zO a0 b0 c0)), zVi (a0 60) k1 14 f1, zVi (a0 12) k2 2 f2, zVi (a0 17) k3 2 f3, zVi (a0 27) k4 28 f4, zVi (a0 25) k5 28 f5] [(k1, .int), (k2, .int), (k3, .int), (k4, .int), (k5, .int)] (fun r _ => r = o ∧ narrow .boolean (.int o) = .int o) [(h0, .inr (12, zO a0 b0 c0)), zVi (a0 60) k1 14 f1, zVi (a0 12) k2 2 f2, zVi (a0 17) k3 2 f3, zVi (a0 27) k4 28 f4, zVi (a0 25) k5 28 f5] [(k1, .int), (k2, .int), (k3, .int), (k4, .int), (k5, .int)] sz := by
  refine zgoi (cc := cX12_isFormatSaid) (maxL := 3) (ret := (some .boolean)) (C0 := RX12) (lv0 := [(0, .ref h0), (1, .int p1)]) zpl_X12 rfl rfl rfl (Nat.le_of_ble_eq_true rfl) ?_
  intro p e s m below meth c A ls Q hx hb hr hts hown hlocks hml hP hK hD hA hS hl hQ
  unfold fn_X12_isFormatSaid at hfn
  refine lv_aload_n hx hb dX12_isFormatSaid_0 rfl (lv_at hl 0 rfl) ?_
  refine lv_aload_n hx hb dX12_isFormatSaid_1 rfl (lv_at hl 0 rfl) ?_
  refine va_get (D := (dC, dI)) (ci := 12) (v := .ref (a0 60)) (C := RX12) (T := TX12) (N := 67) hx hb hts zn_X12_isFormatSaid_X12 hown hK hP 0 rfl rfl 60 (of_decide_eq_true rfl) (hts (.fieldLink RX12 195 "ShortEnoughModel" "saysFormat" "[I") zw_X12_isFormatSaid_1326) (fun _ h9 => h9) rfl dX12_isFormatSaid_2 ?_
  refine lv_iload_n hx hb dX12_isFormatSaid_5 rfl (lv_at hl 1 rfl) ?_
  obtain ⟨h_1, hfn⟩ := zg_s hfn
  refine va_iald hx hb hK hP 1 0 rfl rfl h_1 dX12_isFormatSaid_6 ?_
  obtain ⟨o_2, hqo_2, hfn⟩ := zb_s hfn
  refine zcVb (ci := 12) (rest := []) (pc' := 10) (ws' := [(h0, .inr (12, zO a0 b0 c0)), zVi (a0 60) k1 14 f1, zVi (a0 12) k2 2 f2, zVi (a0 17) k3 2 f3, zVi (a0 27) k4 28 f4, zVi (a0 25) k5 28 f5]) hP hK hD hS hA ⟨hx, hb, hml, hown, hts⟩ (zf_X12_isFormat l dC dI h0 (f1 p1.toNatClampNeg) a0 b0 c0 k2 f2 o_2 hqo_2 s.heap.size) (cwV 1 hts gX12_isFormatSaid_X12_isFormat rfl rfl rfl zhd_X12_isFormat ⟨Nat.le_of_ble_eq_true rfl, Nat.le_of_ble_eq_true rfl⟩) [0, 2] rfl (of_decide_eq_true rfl) [1] rfl rfl rfl rfl hl.1 rfl (Nat.le_of_ble_eq_true rfl) dX12_isFormatSaid_7 ⟨Nat.le_of_ble_eq_true rfl, Nat.le_of_ble_eq_true rfl⟩ [some 0, none, some 1] (of_decide_eq_true rfl) (of_decide_eq_true rfl) rfl rfl rfl (fun H locs hw_5n hP hD hS => ?_)
  refine lv_if_ne (tgt := 15) hx hb dX12_isFormatSaid_10 (of_decide_eq_true rfl) (fun c_6 => ?_) (fun c_6 => ?_)
  · have hfn := (if_neg c_6).symm.trans hfn
    refine lv_iconst (v := 0) hx hb dX12_isFormatSaid_15 zci_0 ?_
    refine lv_istore_n (lv' := [(2, .int 0), (0, .ref h0), (1, .int p1)]) hx hb dX12_isFormatSaid_16 rfl hl (of_decide_eq_true rfl) rfl (fun ls hl => ?_)
    obtain ⟨bd_7, ebd_7, hfn⟩ := zl_g hfn
    have lp_7 : ∀ (n : Nat) (s_7 : Int32) (H : Heap) (locs : List Loc) (ls : Array Slot), zl bd_7 n s_7 = some o → va_P (dC, dI) vwCl [(h0, .inr (12, zO a0 b0 c0)), zVi (a0 60) k1 14 f1, zVi (a0 12) k2 2 f2, zVi (a0 17) k3 2 f3, zVi (a0 27) k4 28 f4, zVi (a0 25) k5 28 f5] H → va_D A [(h0, .inr (12, zO a0 b0 c0)), zVi (a0 60) k1 14 f1, zVi (a0 12) k2 2 f2, zVi (a0 17) k3 2 f3, zVi (a0 27) k4 28 f4, zVi (a0 25) k5 28 f5] → va_S A s.heap H locs → lv_has ls 3 [(2, .int s_7), (0, .ref h0), (1, .int p1)] → W p l e (headSpec wsX12_isFormatSaid ({ frames := 2, cells := 0, slots := 0, locals := 46 })).room s m ([.ref h0, .int p1] : List Value).toArray below meth c H locs 0 0 Q (F0 m 17 ls []) := by
      intro n
      induction n with
      | zero => exact fun _ _ _ _ hfn => (zl_0 hfn).elim
      | succ n ih_7 =>
        intro s_7 H locs ls hfn hP hD hS hl
        have hfn := zl_s ebd_7 hfn
        refine lv_iload_n hx hb dX12_isFormatSaid_17 rfl (lv_at hl 0 rfl) ?_
        refine lv_aload_n hx hb dX12_isFormatSaid_18 rfl (lv_at hl 1 rfl) ?_
        refine va_get (D := (dC, dI)) (ci := 12) (v := .ref (a0 17)) (C := RX12) (T := TX12) (N := 67) hx hb hts zn_X12_isFormatSaid_X12 hown hK hP 0 rfl rfl 17 (of_decide_eq_true rfl) (hts (.fieldLink RX12 62 "ShortEnoughModel" "numbers" "[I") zw_X12_isFormatSaid_1327) (fun _ h9 => h9) rfl dX12_isFormatSaid_19 ?_
        refine lv_iconst (v := 0) hx hb dX12_isFormatSaid_22 zci_0 ?_
        refine va_iald hx hb hK hP 3 2 rfl rfl (zv_in (by decide +kernel)) dX12_isFormatSaid_23 ?_
        refine lv_icmp_ge (tgt := 98) hx hb dX12_isFormatSaid_24 (of_decide_eq_true rfl) (fun c_8 => ?_) (fun c_8 => ?_)
        · have hfn := (if_pos c_8).symm.trans hfn
          refine lv_iconst (v := 1) hx hb dX12_isFormatSaid_98 zci_1 ?_
          have ho := Option.some.inj hfn
          subst ho
          exact zrz hx hb hr rfl hK hP hD hS hQ ⟨rfl, zB1⟩ hlocks dX12_isFormatSaid_99
        have hfn := (if_neg c_8).symm.trans hfn
        refine lv_aload_n hx hb dX12_isFormatSaid_27 rfl (lv_at hl 1 rfl) ?_
        refine va_get (D := (dC, dI)) (ci := 12) (v := .ref (a0 27)) (C := RX12) (T := TX12) (N := 67) hx hb hts zn_X12_isFormatSaid_X12 hown hK hP 0 rfl rfl 27 (of_decide_eq_true rfl) (hts (.fieldLink RX12 93 "ShortEnoughModel" "groupOf" "[I") zw_X12_isFormatSaid_1328) (fun _ h9 => h9) rfl dX12_isFormatSaid_28 ?_
        refine lv_iload_n hx hb dX12_isFormatSaid_31 rfl (lv_at hl 0 rfl) ?_
        obtain ⟨h_9, hfn⟩ := zg_s hfn
        refine va_iald hx hb hK hP 4 3 rfl rfl h_9 dX12_isFormatSaid_32 ?_
        refine lv_aload_n hx hb dX12_isFormatSaid_33 rfl (lv_at hl 1 rfl) ?_
        refine va_get (D := (dC, dI)) (ci := 12) (v := .ref (a0 27)) (C := RX12) (T := TX12) (N := 67) hx hb hts zn_X12_isFormatSaid_X12 hown hK hP 0 rfl rfl 27 (of_decide_eq_true rfl) (hts (.fieldLink RX12 93 "ShortEnoughModel" "groupOf" "[I") zw_X12_isFormatSaid_1328) (fun _ h9 => h9) rfl dX12_isFormatSaid_34 ?_
        refine lv_iload_n hx hb dX12_isFormatSaid_37 rfl (lv_at hl 2 rfl) ?_
        obtain ⟨h_10, hfn⟩ := zg_s hfn
        refine va_iald hx hb hK hP 4 3 rfl rfl h_10 dX12_isFormatSaid_38 ?_
        refine lv_icmp_eq (tgt := 45) hx hb dX12_isFormatSaid_39 (of_decide_eq_true rfl) (fun c_11 => ?_) (fun c_11 => ?_)
        · have hfn := (if_pos c_11).symm.trans hfn
          refine lv_iload_n hx hb dX12_isFormatSaid_45 rfl (lv_at hl 0 rfl) ?_
          refine lv_iload_n hx hb dX12_isFormatSaid_46 rfl (lv_at hl 2 rfl) ?_
          obtain ⟨j_12, ej_12, hfn⟩ := zj_g hfn
          have jp_12 : ∀ (s_12 : Unit) (H : Heap) (locs : List Loc) (ls : Array Slot), j_12 s_12 = some o → va_P (dC, dI) vwCl [(h0, .inr (12, zO a0 b0 c0)), zVi (a0 60) k1 14 f1, zVi (a0 12) k2 2 f2, zVi (a0 17) k3 2 f3, zVi (a0 27) k4 28 f4, zVi (a0 25) k5 28 f5] H → va_D A [(h0, .inr (12, zO a0 b0 c0)), zVi (a0 60) k1 14 f1, zVi (a0 12) k2 2 f2, zVi (a0 17) k3 2 f3, zVi (a0 27) k4 28 f4, zVi (a0 25) k5 28 f5] → va_S A s.heap H locs → lv_has ls 3 [(2, .int s_7), (0, .ref h0), (1, .int p1)] → W p l e (headSpec wsX12_isFormatSaid ({ frames := 2, cells := 0, slots := 0, locals := 46 })).room s m ([.ref h0, .int p1] : List Value).toArray below meth c H locs 0 0 Q (F0 m 65 ls []) := by
            intro s_12 H locs ls hfn hP hD hS hl
            have hfn := zj_s ej_12 hfn
            refine lv_aload_n hx hb dX12_isFormatSaid_65 rfl (lv_at hl 1 rfl) ?_
            refine va_get (D := (dC, dI)) (ci := 12) (v := .ref (a0 25)) (C := RX12) (T := TX12) (N := 67) hx hb hts zn_X12_isFormatSaid_X12 hown hK hP 0 rfl rfl 25 (of_decide_eq_true rfl) (hts (.fieldLink RX12 87 "ShortEnoughModel" "fixedAs" "[I") zw_X12_isFormatSaid_1329) (fun _ h9 => h9) rfl dX12_isFormatSaid_66 ?_
            refine lv_iload_n hx hb dX12_isFormatSaid_69 rfl (lv_at hl 0 rfl) ?_
            obtain ⟨h_13, hfn⟩ := zg_s hfn
            refine va_iald hx hb hK hP 5 4 rfl rfl h_13 dX12_isFormatSaid_70 ?_
            refine lv_iconst (v := (-1)) hx hb dX12_isFormatSaid_71 zci_m1 ?_
            refine lv_icmp_eq (tgt := 92) hx hb dX12_isFormatSaid_72 (of_decide_eq_true rfl) (fun c_14 => ?_) (fun c_14 => ?_)
            · have hfn := (if_pos c_14).symm.trans hfn
              refine lv_iinc (v := (s_7 + 1)) (lv' := [(2, .int (s_7 + 1)), (0, .ref h0), (1, .int p1)]) hx hb dX12_isFormatSaid_92 hl (k := 0) rfl rfl (of_decide_eq_true rfl) rfl (fun ls hl => ?_)
              refine lv_goto (tgt := 17) hx hb dX12_isFormatSaid_95 (of_decide_eq_true rfl) ?_
              exact ih_7 (s_7 + 1) H locs ls hfn hP hD hS (lv_sub hl [0, 1, 2] rfl)
            have hfn := (if_neg c_14).symm.trans hfn
            refine lv_aload_n hx hb dX12_isFormatSaid_75 rfl (lv_at hl 1 rfl) ?_
            refine va_get (D := (dC, dI)) (ci := 12) (v := .ref (a0 25)) (C := RX12) (T := TX12) (N := 67) hx hb hts zn_X12_isFormatSaid_X12 hown hK hP 0 rfl rfl 25 (of_decide_eq_true rfl) (hts (.fieldLink RX12 87 "ShortEnoughModel" "fixedAs" "[I") zw_X12_isFormatSaid_1329) (fun _ h9 => h9) rfl dX12_isFormatSaid_76 ?_
            refine lv_iload_n hx hb dX12_isFormatSaid_79 rfl (lv_at hl 0 rfl) ?_
            refine va_iald hx hb hK hP 5 4 rfl rfl h_13 dX12_isFormatSaid_80 ?_
            refine lv_aload_n hx hb dX12_isFormatSaid_81 rfl (lv_at hl 1 rfl) ?_
            refine va_get (D := (dC, dI)) (ci := 12) (v := .ref (a0 60)) (C := RX12) (T := TX12) (N := 67) hx hb hts zn_X12_isFormatSaid_X12 hown hK hP 0 rfl rfl 60 (of_decide_eq_true rfl) (hts (.fieldLink RX12 195 "ShortEnoughModel" "saysFormat" "[I") zw_X12_isFormatSaid_1326) (fun _ h9 => h9) rfl dX12_isFormatSaid_82 ?_
            refine lv_iload_n hx hb dX12_isFormatSaid_85 rfl (lv_at hl 2 rfl) ?_
            obtain ⟨h_15, hfn⟩ := zg_s hfn
            refine va_iald hx hb hK hP 1 0 rfl rfl h_15 dX12_isFormatSaid_86 ?_
            refine lv_icmp_eq (tgt := 92) hx hb dX12_isFormatSaid_87 (of_decide_eq_true rfl) (fun c_16 => ?_) (fun c_16 => ?_)
            · have hfn := (if_pos c_16).symm.trans hfn
              refine lv_iinc (v := (s_7 + 1)) (lv' := [(2, .int (s_7 + 1)), (0, .ref h0), (1, .int p1)]) hx hb dX12_isFormatSaid_92 hl (k := 0) rfl rfl (of_decide_eq_true rfl) rfl (fun ls hl => ?_)
              refine lv_goto (tgt := 17) hx hb dX12_isFormatSaid_95 (of_decide_eq_true rfl) ?_
              exact ih_7 (s_7 + 1) H locs ls hfn hP hD hS (lv_sub hl [0, 1, 2] rfl)
            have hfn := (if_neg c_16).symm.trans hfn
            refine lv_iconst (v := 0) hx hb dX12_isFormatSaid_90 zci_0 ?_
            have ho := Option.some.inj hfn
            subst ho
            exact zrz hx hb hr rfl hK hP hD hS hQ ⟨rfl, zB0⟩ hlocks dX12_isFormatSaid_91
          refine lv_icmp_ge (tgt := 65) hx hb dX12_isFormatSaid_47 (of_decide_eq_true rfl) (fun c_17 => ?_) (fun c_17 => ?_)
          · have hfn := (if_pos c_17).symm.trans hfn
            exact jp_12 () H locs ls hfn hP hD hS (lv_sub hl [0, 1, 2] rfl)
          have hfn := (if_neg c_17).symm.trans hfn
          refine lv_aload_n hx hb dX12_isFormatSaid_50 rfl (lv_at hl 1 rfl) ?_
          refine va_get (D := (dC, dI)) (ci := 12) (v := .ref (a0 60)) (C := RX12) (T := TX12) (N := 67) hx hb hts zn_X12_isFormatSaid_X12 hown hK hP 0 rfl rfl 60 (of_decide_eq_true rfl) (hts (.fieldLink RX12 195 "ShortEnoughModel" "saysFormat" "[I") zw_X12_isFormatSaid_1326) (fun _ h9 => h9) rfl dX12_isFormatSaid_51 ?_
          refine lv_iload_n hx hb dX12_isFormatSaid_54 rfl (lv_at hl 0 rfl) ?_
          obtain ⟨h_18, hfn⟩ := zg_s hfn
          refine va_iald hx hb hK hP 1 0 rfl rfl h_18 dX12_isFormatSaid_55 ?_
          refine lv_aload_n hx hb dX12_isFormatSaid_56 rfl (lv_at hl 1 rfl) ?_
          refine va_get (D := (dC, dI)) (ci := 12) (v := .ref (a0 60)) (C := RX12) (T := TX12) (N := 67) hx hb hts zn_X12_isFormatSaid_X12 hown hK hP 0 rfl rfl 60 (of_decide_eq_true rfl) (hts (.fieldLink RX12 195 "ShortEnoughModel" "saysFormat" "[I") zw_X12_isFormatSaid_1326) (fun _ h9 => h9) rfl dX12_isFormatSaid_57 ?_
          refine lv_iload_n hx hb dX12_isFormatSaid_60 rfl (lv_at hl 2 rfl) ?_
          obtain ⟨h_19, hfn⟩ := zg_s hfn
          refine va_iald hx hb hK hP 1 0 rfl rfl h_19 dX12_isFormatSaid_61 ?_
          refine lv_icmp_ne (tgt := 90) hx hb dX12_isFormatSaid_62 (of_decide_eq_true rfl) (fun c_20 => ?_) (fun c_20 => ?_)
          · have hfn := (if_neg c_20).symm.trans hfn
            refine lv_iconst (v := 0) hx hb dX12_isFormatSaid_90 zci_0 ?_
            have ho := Option.some.inj hfn
            subst ho
            exact zrz hx hb hr rfl hK hP hD hS hQ ⟨rfl, zB0⟩ hlocks dX12_isFormatSaid_91
          have hfn := (if_pos c_20).symm.trans hfn
          exact jp_12 () H locs ls hfn hP hD hS (lv_sub hl [0, 1, 2] rfl)
        have hfn := (if_neg c_11).symm.trans hfn
        refine lv_goto (tgt := 92) hx hb dX12_isFormatSaid_42 (of_decide_eq_true rfl) ?_
        refine lv_iinc (v := (s_7 + 1)) (lv' := [(2, .int (s_7 + 1)), (0, .ref h0), (1, .int p1)]) hx hb dX12_isFormatSaid_92 hl (k := 0) rfl rfl (of_decide_eq_true rfl) rfl (fun ls hl => ?_)
        refine lv_goto (tgt := 17) hx hb dX12_isFormatSaid_95 (of_decide_eq_true rfl) ?_
        exact ih_7 (s_7 + 1) H locs ls hfn hP hD hS (lv_sub hl [0, 1, 2] rfl)
    exact lp_7 _ 0 H locs ls hfn hP hD hS (lv_sub hl [0, 1, 2] rfl)
  have hfn := (if_pos c_6).symm.trans hfn
  refine lv_iconst (v := 0) hx hb dX12_isFormatSaid_13 zci_0 ?_
  have ho := Option.some.inj hfn
  subst ho
  exact zrz hx hb hr rfl hK hP hD hS hQ ⟨rfl, zB0⟩ hlocks dX12_isFormatSaid_14
theorem zn_X12_breaks_X12 : ∀ w ∈ wsX120, w ∈ wsX12_breaks := fun _ h => List.mem_cons_of_mem _ (List.mem_append_right _ h)
theorem zw_X12_breaks_1331 : Cond.fieldLink RX12 132 "ShortEnoughModel" "tried" "[I" ∈ wsX12_breaks := List.mem_of_getElem? (i := 1) (by decide +kernel)
theorem zw_X12_breaks_1332 : Cond.fieldLink RX12 195 "ShortEnoughModel" "saysFormat" "[I" ∈ wsX12_breaks := List.mem_of_getElem? (i := 2) (by decide +kernel)
theorem zw_X12_breaks_1333 : Cond.fieldLink RX12 198 "ShortEnoughModel" "saysLeast" "[J" ∈ wsX12_breaks := List.mem_of_getElem? (i := 3) (by decide +kernel)
theorem zw_X12_breaks_1334 : Cond.fieldLink RX12 106 "ShortEnoughModel" "least" "[J" ∈ wsX12_breaks := List.mem_of_getElem? (i := 4) (by decide +kernel)
theorem zw_X12_breaks_1335 : Cond.fieldLink RX12 201 "ShortEnoughModel" "saysGreatest" "[J" ∈ wsX12_breaks := List.mem_of_getElem? (i := 5) (by decide +kernel)
theorem zw_X12_breaks_1336 : Cond.fieldLink RX12 109 "ShortEnoughModel" "greatest" "[J" ∈ wsX12_breaks := List.mem_of_getElem? (i := 6) (by decide +kernel)
theorem zw_X12_breaks_1337 : Cond.fieldLink RX12 204 "ShortEnoughModel" "saysError" "[J" ∈ wsX12_breaks := List.mem_of_getElem? (i := 7) (by decide +kernel)
theorem zw_X12_breaks_1338 : Cond.fieldLink RX12 135 "ShortEnoughModel" "error" "[J" ∈ wsX12_breaks := List.mem_of_getElem? (i := 8) (by decide +kernel)
theorem zw_X12_breaks_1339 : Cond.fieldLink RX12 56 "ShortEnoughModel" "most" "[I" ∈ wsX12_breaks := List.mem_of_getElem? (i := 9) (by decide +kernel)
theorem zw_X12_breaks_1340 : Cond.fieldLink RX12 90 "ShortEnoughModel" "within" "[I" ∈ wsX12_breaks := List.mem_of_getElem? (i := 10) (by decide +kernel)
set_option maxHeartbeats 4000000 in
set_option maxRecDepth 100000 in
theorem zf_X12_breaks (l : Launch) (dC : Nat → ClassId) (dI : Nat → Nat → Nat) (h0 : Nat) (p1 : Int32) (a0 : Nat → Nat) (b0 : Nat → Int32) (c0 : Nat → Int64) (k1 : Nat) (f1 : Nat → Int32) (k2 : Nat) (f2 : Nat → Int32) (k3 : Nat) (f3 : Nat → Int32) (k4 : Nat) (f4 : Nat → Int32) (k5 : Nat) (f5 : Nat → Int32) (k6 : Nat) (f6 : Nat → Int32) (k7 : Nat) (f7 : Nat → Int32) (k8 : Nat) (f8 : Nat → Int32) (k9 : Nat) (f9 : Nat → Int32) (k10 : Nat) (f10 : Nat → Int64) (k11 : Nat) (f11 : Nat → Int64) (k12 : Nat) (f12 : Nat → Int64) (k13 : Nat) (f13 : Nat → Int64) (k14 : Nat) (f14 : Nat → Int32) (k15 : Nat) (f15 : Nat → Int64) (k16 : Nat) (f16 : Nat → Int64) (k17 : Nat) (f17 : Nat → Int64) (k18 : Nat) (f18 : Nat → Int64) (k19 : Nat) (f19 : Nat → Int32) (k20 : Nat) (f20 : Nat → Int32) (o : Int32 × (Nat → Int32) × (Nat → Int64) × (Nat → Int64) × (Nat → Int64)) (hfn : fn_X12_breaks p1 (b0 33) (c0 34) f1 f2 f3 f4 f5 f6 f7 f8 f9 f10 f11 f12 f13 f14 f15 f16 f17 f18 f19 f20 = some o) (sz : Nat) : zMi l yX12_breaks wsX12_breaks ({ frames := 4, cells := 0, slots := 0, locals := 113 }) (dC, dI) vwCl [.ref h0, .int p1] [(h0, .inr (12, zO a0 b0 c0)), zVi (a0 60) k1 14 f1, zVi (a0 12) k2 2 f2, zVi (a0 17) k3 2 f3, zVi (a0 27) k4 28 f4, zVi (a0 25) k5 28 f5, zVi (a0 39) k6 14 f6, zVi (a0 19) k7 28 f7, zVi (a0 20) k8 28 f8, zVi (a0 21) k9 28 f9, zVl (a0 31) k10 14 f10, zVl (a0 22) k11 28 f11, zVl (a0 23) k12 28 f12, zVl (a0 32) k13 14 f13, zVi (a0 14) k14 8 f14, zVl (a0 40) k15 14 f15, zVl (a0 61) k16 14 f16, zVl (a0 62) k17 14 f17, zVl (a0 63) k18 14 f18, zVi (a0 15) k19 8 f19, zVi (a0 26) k20 28 f20] [(k1, .int), (k2, .int), (k3, .int), (k4, .int), (k5, .int), (k6, .int), (k7, .int), (k8, .int), (k9, .int), (k10, .long), (k11, .long), (k12, .long), (k13, .long), (k14, .int), (k15, .long), (k16, .long), (k17, .long), (k18, .long), (k19, .int), (k20, .int)] (fun r _ => r = o.1) [(h0, .inr (12, zO a0 b0 c0)), zVi (a0 60) k1 14 f1, zVi (a0 12) k2 2 f2, zVi (a0 17) k3 2 f3, zVi (a0 27) k4 28 f4, zVi (a0 25) k5 28 f5, zVi (a0 39) k6 14 o.2.1, zVi (a0 19) k7 28 f7, zVi (a0 20) k8 28 f8, zVi (a0 21) k9 28 f9, zVl (a0 31) k10 14 o.2.2.1, zVl (a0 22) k11 28 f11, zVl (a0 23) k12 28 f12, zVl (a0 32) k13 14 o.2.2.2.1, zVi (a0 14) k14 8 f14, zVl (a0 40) k15 14 o.2.2.2.2, zVl (a0 61) k16 14 f16, zVl (a0 62) k17 14 f17, zVl (a0 63) k18 14 f18, zVi (a0 15) k19 8 f19, zVi (a0 26) k20 28 f20] [(k1, .int), (k2, .int), (k3, .int), (k4, .int), (k5, .int), (k6, .int), (k7, .int), (k8, .int), (k9, .int), (k10, .long), (k11, .long), (k12, .long), (k13, .long), (k14, .int), (k15, .long), (k16, .long), (k17, .long), (k18, .long), (k19, .int), (k20, .int)] sz := by
  refine zgoi (cc := cX12_breaks) (maxL := 2) (ret := (some .int)) (C0 := RX12) (lv0 := [(0, .ref h0), (1, .int p1)]) zpl_X12 rfl rfl rfl (Nat.le_of_ble_eq_true rfl) ?_
  intro p e s m below meth c A ls Q hx hb hr hts hown hlocks hml hP hK hD hA hS hl hQ
  unfold fn_X12_breaks at hfn
  refine lv_aload_n hx hb dX12_breaks_0 rfl (lv_at hl 0 rfl) ?_
  refine lv_iload_n hx hb dX12_breaks_1 rfl (lv_at hl 1 rfl) ?_
  obtain ⟨o_1, hqo_1, hfn⟩ := zb_s hfn
  refine zcVb (ci := 12) (rest := []) (pc' := 5) (ws' := [(h0, .inr (12, zO a0 b0 c0)), zVi (a0 60) k1 14 f1, zVi (a0 12) k2 2 f2, zVi (a0 17) k3 2 f3, zVi (a0 27) k4 28 f4, zVi (a0 25) k5 28 f5, zVi (a0 39) k6 14 f6, zVi (a0 19) k7 28 f7, zVi (a0 20) k8 28 f8, zVi (a0 21) k9 28 f9, zVl (a0 31) k10 14 f10, zVl (a0 22) k11 28 f11, zVl (a0 23) k12 28 f12, zVl (a0 32) k13 14 f13, zVi (a0 14) k14 8 f14, zVl (a0 40) k15 14 f15, zVl (a0 61) k16 14 f16, zVl (a0 62) k17 14 f17, zVl (a0 63) k18 14 f18, zVi (a0 15) k19 8 f19, zVi (a0 26) k20 28 f20]) hP hK hD hS hA ⟨hx, hb, hml, hown, hts⟩ (zf_X12_isFormatSaid l dC dI h0 p1 a0 b0 c0 k1 f1 k2 f2 k3 f3 k4 f4 k5 f5 o_1 hqo_1 s.heap.size) (cwV 1 hts gX12_breaks_X12_isFormatSaid rfl rfl rfl zhd_X12_isFormatSaid ⟨Nat.le_of_ble_eq_true rfl, Nat.le_of_ble_eq_true rfl⟩) [0, 1, 2, 3, 4, 5] rfl (of_decide_eq_true rfl) [0, 1, 2, 3, 4] rfl rfl rfl rfl hl.1 rfl (Nat.le_of_ble_eq_true rfl) dX12_breaks_2 ⟨Nat.le_of_ble_eq_true rfl, Nat.le_of_ble_eq_true rfl⟩ [some 0, some 1, some 2, some 3, some 4, some 5] (of_decide_eq_true rfl) (of_decide_eq_true rfl) rfl rfl rfl (fun H locs hw_4n hP hD hS => ?_)
  refine lv_if_ne (tgt := 10) hx hb dX12_breaks_5 (of_decide_eq_true rfl) (fun c_5 => ?_) (fun c_5 => ?_)
  · have hfn := (if_neg c_5).symm.trans hfn
    refine lv_aload_n hx hb dX12_breaks_10 rfl (lv_at hl 0 rfl) ?_
    refine va_get (D := (dC, dI)) (ci := 12) (v := .ref (a0 39)) (C := RX12) (T := TX12) (N := 67) hx hb hts zn_X12_breaks_X12 hown hK hP 0 rfl rfl 39 (of_decide_eq_true rfl) (hts (.fieldLink RX12 132 "ShortEnoughModel" "tried" "[I") zw_X12_breaks_1331) (fun _ h9 => h9) rfl dX12_breaks_11 ?_
    refine lv_iload_n hx hb dX12_breaks_14 rfl (lv_at hl 1 rfl) ?_
    refine lv_aload_n hx hb dX12_breaks_15 rfl (lv_at hl 0 rfl) ?_
    refine va_get (D := (dC, dI)) (ci := 12) (v := .ref (a0 60)) (C := RX12) (T := TX12) (N := 67) hx hb hts zn_X12_breaks_X12 hown hK hP 0 rfl rfl 60 (of_decide_eq_true rfl) (hts (.fieldLink RX12 195 "ShortEnoughModel" "saysFormat" "[I") zw_X12_breaks_1332) (fun _ h9 => h9) rfl dX12_breaks_16 ?_
    refine lv_iload_n hx hb dX12_breaks_19 rfl (lv_at hl 1 rfl) ?_
    obtain ⟨h_6, hfn⟩ := zg_s hfn
    refine va_iald hx hb hK hP 1 0 rfl rfl h_6 dX12_breaks_20 ?_
    refine va_iast hx hb hK hP hD hS 6 5 rfl rfl h_6 dX12_breaks_21 (fun H locs hP hD hS => ?_)
    have hP : va_P (dC, dI) vwCl [(h0, .inr (12, zO a0 b0 c0)), zVi (a0 60) k1 14 f1, zVi (a0 12) k2 2 f2, zVi (a0 17) k3 2 f3, zVi (a0 27) k4 28 f4, zVi (a0 25) k5 28 f5, zVi (a0 39) k6 14 (upd f6 p1.toNatClampNeg (f1 p1.toNatClampNeg)), zVi (a0 19) k7 28 f7, zVi (a0 20) k8 28 f8, zVi (a0 21) k9 28 f9, zVl (a0 31) k10 14 f10, zVl (a0 22) k11 28 f11, zVl (a0 23) k12 28 f12, zVl (a0 32) k13 14 f13, zVi (a0 14) k14 8 f14, zVl (a0 40) k15 14 f15, zVl (a0 61) k16 14 f16, zVl (a0 62) k17 14 f17, zVl (a0 63) k18 14 f18, zVi (a0 15) k19 8 f19, zVi (a0 26) k20 28 f20] H := hP
    have hD := zDW hD hP rfl
    refine lv_aload_n hx hb dX12_breaks_22 rfl (lv_at hl 0 rfl) ?_
    refine lv_iload_n hx hb dX12_breaks_23 rfl (lv_at hl 1 rfl) ?_
    obtain ⟨o_7, hqo_7, hfn⟩ := zb_s hfn
    refine zcVv (ci := 12) (rest := []) (pc' := 27) (ws' := [(h0, .inr (12, zO a0 b0 c0)), zVi (a0 60) k1 14 f1, zVi (a0 12) k2 2 f2, zVi (a0 17) k3 2 f3, zVi (a0 27) k4 28 f4, zVi (a0 25) k5 28 f5, zVi (a0 39) k6 14 (upd f6 p1.toNatClampNeg (f1 p1.toNatClampNeg)), zVi (a0 19) k7 28 f7, zVi (a0 20) k8 28 f8, zVi (a0 21) k9 28 f9, zVl (a0 31) k10 14 o_7.1, zVl (a0 22) k11 28 f11, zVl (a0 23) k12 28 f12, zVl (a0 32) k13 14 o_7.2, zVi (a0 14) k14 8 f14, zVl (a0 40) k15 14 f15, zVl (a0 61) k16 14 f16, zVl (a0 62) k17 14 f17, zVl (a0 63) k18 14 f18, zVi (a0 15) k19 8 f19, zVi (a0 26) k20 28 f20]) hP hK hD hS hA ⟨hx, hb, hml, hown, hts⟩ (zf_X12_laysRange l dC dI h0 p1 a0 b0 c0 k7 f7 k8 f8 k9 f9 k10 f10 k11 f11 k12 f12 k13 f13 o_7 hqo_7 H.size) (cwV 1 hts gX12_breaks_X12_laysRange rfl rfl rfl zhd_X12_laysRange ⟨Nat.le_of_ble_eq_true rfl, Nat.le_of_ble_eq_true rfl⟩) [0, 7, 8, 9, 10, 11, 12, 13] rfl (of_decide_eq_true rfl) [6, 7, 8, 9, 10, 11, 12] rfl rfl rfl rfl hl.1 rfl (Nat.le_of_ble_eq_true rfl) dX12_breaks_24 ⟨Nat.le_of_ble_eq_true rfl, Nat.le_of_ble_eq_true rfl⟩ [some 0, none, none, none, none, none, none, some 1, some 2, some 3, some 4, some 5, some 6, some 7] (of_decide_eq_true rfl) (of_decide_eq_true rfl) rfl rfl rfl (fun H locs hP hD hS => ?_)
    refine lv_aload_n hx hb dX12_breaks_27 rfl (lv_at hl 0 rfl) ?_
    refine lv_iload_n hx hb dX12_breaks_28 rfl (lv_at hl 1 rfl) ?_
    obtain ⟨o_11, hqo_11, hfn⟩ := zb_s hfn
    refine zcVv (ci := 12) (rest := []) (pc' := 32) (ws' := [(h0, .inr (12, zO a0 b0 c0)), zVi (a0 60) k1 14 f1, zVi (a0 12) k2 2 f2, zVi (a0 17) k3 2 f3, zVi (a0 27) k4 28 f4, zVi (a0 25) k5 28 f5, zVi (a0 39) k6 14 (upd f6 p1.toNatClampNeg (f1 p1.toNatClampNeg)), zVi (a0 19) k7 28 f7, zVi (a0 20) k8 28 f8, zVi (a0 21) k9 28 f9, zVl (a0 31) k10 14 o_7.1, zVl (a0 22) k11 28 f11, zVl (a0 23) k12 28 f12, zVl (a0 32) k13 14 o_7.2, zVi (a0 14) k14 8 f14, zVl (a0 40) k15 14 o_11, zVl (a0 61) k16 14 f16, zVl (a0 62) k17 14 f17, zVl (a0 63) k18 14 f18, zVi (a0 15) k19 8 f19, zVi (a0 26) k20 28 f20]) hP hK hD hS hA ⟨hx, hb, hml, hown, hts⟩ (zf_X12_laysError l dC dI h0 p1 a0 b0 c0 k6 (upd f6 p1.toNatClampNeg (f1 p1.toNatClampNeg)) k14 f14 k7 f7 k8 f8 k9 f9 k15 f15 k11 f11 k12 f12 k10 o_7.1 k13 o_7.2 o_11 hqo_11 H.size) (cwV 1 hts gX12_breaks_X12_laysError rfl rfl rfl zhd_X12_laysError ⟨Nat.le_of_ble_eq_true rfl, Nat.le_of_ble_eq_true rfl⟩) [0, 6, 14, 7, 8, 9, 15, 11, 12, 10, 13] rfl (of_decide_eq_true rfl) [5, 13, 6, 7, 8, 14, 10, 11, 9, 12] rfl rfl rfl rfl hl.1 rfl (Nat.le_of_ble_eq_true rfl) dX12_breaks_29 ⟨Nat.le_of_ble_eq_true rfl, Nat.le_of_ble_eq_true rfl⟩ [some 0, none, none, none, none, none, some 1, some 3, some 4, some 5, some 9, some 7, some 8, some 10, some 2, some 6] (of_decide_eq_true rfl) (of_decide_eq_true rfl) rfl rfl rfl (fun H locs hP hD hS => ?_)
    refine lv_aload_n hx hb dX12_breaks_32 rfl (lv_at hl 0 rfl) ?_
    refine va_get (D := (dC, dI)) (ci := 12) (v := .ref (a0 61)) (C := RX12) (T := TX12) (N := 67) hx hb hts zn_X12_breaks_X12 hown hK hP 0 rfl rfl 61 (of_decide_eq_true rfl) (hts (.fieldLink RX12 198 "ShortEnoughModel" "saysLeast" "[J") zw_X12_breaks_1333) (fun _ h9 => h9) rfl dX12_breaks_33 ?_
    refine lv_iload_n hx hb dX12_breaks_36 rfl (lv_at hl 1 rfl) ?_
    refine va_lald hx hb hK hP 16 15 rfl rfl h_6 dX12_breaks_37 ?_
    refine lv_aload_n hx hb dX12_breaks_38 rfl (lv_at hl 0 rfl) ?_
    refine va_get (D := (dC, dI)) (ci := 12) (v := .ref (a0 31)) (C := RX12) (T := TX12) (N := 67) hx hb hts zn_X12_breaks_X12 hown hK hP 0 rfl rfl 31 (of_decide_eq_true rfl) (hts (.fieldLink RX12 106 "ShortEnoughModel" "least" "[J") zw_X12_breaks_1334) (fun _ h9 => h9) rfl dX12_breaks_39 ?_
    refine lv_iload_n hx hb dX12_breaks_42 rfl (lv_at hl 1 rfl) ?_
    refine va_lald hx hb hK hP 10 9 rfl rfl h_6 dX12_breaks_43 ?_
    refine W.lcmp hx hb dX12_breaks_44 ?_
    refine lv_if_le (tgt := 50) hx hb dX12_breaks_45 (of_decide_eq_true rfl) (fun c_15 => ?_) (fun c_15 => ?_)
    · have hfn := (if_pos c_15).symm.trans hfn
      refine lv_aload_n hx hb dX12_breaks_50 rfl (lv_at hl 0 rfl) ?_
      refine va_get (D := (dC, dI)) (ci := 12) (v := .ref (a0 62)) (C := RX12) (T := TX12) (N := 67) hx hb hts zn_X12_breaks_X12 hown hK hP 0 rfl rfl 62 (of_decide_eq_true rfl) (hts (.fieldLink RX12 201 "ShortEnoughModel" "saysGreatest" "[J") zw_X12_breaks_1335) (fun _ h9 => h9) rfl dX12_breaks_51 ?_
      refine lv_iload_n hx hb dX12_breaks_54 rfl (lv_at hl 1 rfl) ?_
      refine va_lald hx hb hK hP 17 16 rfl rfl h_6 dX12_breaks_55 ?_
      refine lv_aload_n hx hb dX12_breaks_56 rfl (lv_at hl 0 rfl) ?_
      refine va_get (D := (dC, dI)) (ci := 12) (v := .ref (a0 32)) (C := RX12) (T := TX12) (N := 67) hx hb hts zn_X12_breaks_X12 hown hK hP 0 rfl rfl 32 (of_decide_eq_true rfl) (hts (.fieldLink RX12 109 "ShortEnoughModel" "greatest" "[J") zw_X12_breaks_1336) (fun _ h9 => h9) rfl dX12_breaks_57 ?_
      refine lv_iload_n hx hb dX12_breaks_60 rfl (lv_at hl 1 rfl) ?_
      refine va_lald hx hb hK hP 13 12 rfl rfl h_6 dX12_breaks_61 ?_
      refine W.lcmp hx hb dX12_breaks_62 ?_
      refine lv_if_ge (tgt := 68) hx hb dX12_breaks_63 (of_decide_eq_true rfl) (fun c_16 => ?_) (fun c_16 => ?_)
      · have hfn := (if_pos c_16).symm.trans hfn
        refine lv_aload_n hx hb dX12_breaks_68 rfl (lv_at hl 0 rfl) ?_
        refine va_get (D := (dC, dI)) (ci := 12) (v := .ref (a0 63)) (C := RX12) (T := TX12) (N := 67) hx hb hts zn_X12_breaks_X12 hown hK hP 0 rfl rfl 63 (of_decide_eq_true rfl) (hts (.fieldLink RX12 204 "ShortEnoughModel" "saysError" "[J") zw_X12_breaks_1337) (fun _ h9 => h9) rfl dX12_breaks_69 ?_
        refine lv_iload_n hx hb dX12_breaks_72 rfl (lv_at hl 1 rfl) ?_
        refine va_lald hx hb hK hP 18 17 rfl rfl h_6 dX12_breaks_73 ?_
        refine lv_aload_n hx hb dX12_breaks_74 rfl (lv_at hl 0 rfl) ?_
        refine va_get (D := (dC, dI)) (ci := 12) (v := .ref (a0 40)) (C := RX12) (T := TX12) (N := 67) hx hb hts zn_X12_breaks_X12 hown hK hP 0 rfl rfl 40 (of_decide_eq_true rfl) (hts (.fieldLink RX12 135 "ShortEnoughModel" "error" "[J") zw_X12_breaks_1338) (fun _ h9 => h9) rfl dX12_breaks_75 ?_
        refine lv_iload_n hx hb dX12_breaks_78 rfl (lv_at hl 1 rfl) ?_
        refine va_lald hx hb hK hP 15 14 rfl rfl h_6 dX12_breaks_79 ?_
        refine W.lcmp hx hb dX12_breaks_80 ?_
        refine lv_if_lt (tgt := 95) hx hb dX12_breaks_81 (of_decide_eq_true rfl) (fun c_17 => ?_) (fun c_17 => ?_)
        · have hfn := (if_pos c_17).symm.trans hfn
          refine lv_iconst (v := 4) hx hb dX12_breaks_95 zci_4 ?_
          have ho := Option.some.inj hfn
          subst ho
          exact zri hx hb hr hK hP hD hS hQ rfl hlocks dX12_breaks_96
        have hfn := (if_neg c_17).symm.trans hfn
        refine lv_aload_n hx hb dX12_breaks_84 rfl (lv_at hl 0 rfl) ?_
        refine va_get (D := (dC, dI)) (ci := 12) (v := .ref (a0 63)) (C := RX12) (T := TX12) (N := 67) hx hb hts zn_X12_breaks_X12 hown hK hP 0 rfl rfl 63 (of_decide_eq_true rfl) (hts (.fieldLink RX12 204 "ShortEnoughModel" "saysError" "[J") zw_X12_breaks_1337) (fun _ h9 => h9) rfl dX12_breaks_85 ?_
        refine lv_iload_n hx hb dX12_breaks_88 rfl (lv_at hl 1 rfl) ?_
        refine va_lald hx hb hK hP 18 17 rfl rfl h_6 dX12_breaks_89 ?_
        refine lv_lconst (v := 0) hx hb dX12_breaks_90 (by decide +kernel) ?_
        refine W.lcmp hx hb dX12_breaks_91 ?_
        refine lv_if_ge (tgt := 97) hx hb dX12_breaks_92 (of_decide_eq_true rfl) (fun c_18 => ?_) (fun c_18 => ?_)
        · have hfn := (if_pos c_18).symm.trans hfn
          refine lv_aload_n hx hb dX12_breaks_97 rfl (lv_at hl 0 rfl) ?_
          refine va_get (D := (dC, dI)) (ci := 12) (v := .ref (a0 31)) (C := RX12) (T := TX12) (N := 67) hx hb hts zn_X12_breaks_X12 hown hK hP 0 rfl rfl 31 (of_decide_eq_true rfl) (hts (.fieldLink RX12 106 "ShortEnoughModel" "least" "[J") zw_X12_breaks_1334) (fun _ h9 => h9) rfl dX12_breaks_98 ?_
          refine lv_iload_n hx hb dX12_breaks_101 rfl (lv_at hl 1 rfl) ?_
          refine lv_aload_n hx hb dX12_breaks_102 rfl (lv_at hl 0 rfl) ?_
          refine va_get (D := (dC, dI)) (ci := 12) (v := .ref (a0 61)) (C := RX12) (T := TX12) (N := 67) hx hb hts zn_X12_breaks_X12 hown hK hP 0 rfl rfl 61 (of_decide_eq_true rfl) (hts (.fieldLink RX12 198 "ShortEnoughModel" "saysLeast" "[J") zw_X12_breaks_1333) (fun _ h9 => h9) rfl dX12_breaks_103 ?_
          refine lv_iload_n hx hb dX12_breaks_106 rfl (lv_at hl 1 rfl) ?_
          refine va_lald hx hb hK hP 16 15 rfl rfl h_6 dX12_breaks_107 ?_
          refine va_last hx hb hK hP hD hS 10 9 rfl rfl h_6 dX12_breaks_108 (fun H locs hP hD hS => ?_)
          have hP : va_P (dC, dI) vwCl [(h0, .inr (12, zO a0 b0 c0)), zVi (a0 60) k1 14 f1, zVi (a0 12) k2 2 f2, zVi (a0 17) k3 2 f3, zVi (a0 27) k4 28 f4, zVi (a0 25) k5 28 f5, zVi (a0 39) k6 14 (upd f6 p1.toNatClampNeg (f1 p1.toNatClampNeg)), zVi (a0 19) k7 28 f7, zVi (a0 20) k8 28 f8, zVi (a0 21) k9 28 f9, zVl (a0 31) k10 14 (vp_updL o_7.1 p1.toNatClampNeg (f16 p1.toNatClampNeg)), zVl (a0 22) k11 28 f11, zVl (a0 23) k12 28 f12, zVl (a0 32) k13 14 o_7.2, zVi (a0 14) k14 8 f14, zVl (a0 40) k15 14 o_11, zVl (a0 61) k16 14 f16, zVl (a0 62) k17 14 f17, zVl (a0 63) k18 14 f18, zVi (a0 15) k19 8 f19, zVi (a0 26) k20 28 f20] H := hP
          have hD := zDW hD hP rfl
          refine lv_aload_n hx hb dX12_breaks_109 rfl (lv_at hl 0 rfl) ?_
          refine va_get (D := (dC, dI)) (ci := 12) (v := .ref (a0 32)) (C := RX12) (T := TX12) (N := 67) hx hb hts zn_X12_breaks_X12 hown hK hP 0 rfl rfl 32 (of_decide_eq_true rfl) (hts (.fieldLink RX12 109 "ShortEnoughModel" "greatest" "[J") zw_X12_breaks_1336) (fun _ h9 => h9) rfl dX12_breaks_110 ?_
          refine lv_iload_n hx hb dX12_breaks_113 rfl (lv_at hl 1 rfl) ?_
          refine lv_aload_n hx hb dX12_breaks_114 rfl (lv_at hl 0 rfl) ?_
          refine va_get (D := (dC, dI)) (ci := 12) (v := .ref (a0 62)) (C := RX12) (T := TX12) (N := 67) hx hb hts zn_X12_breaks_X12 hown hK hP 0 rfl rfl 62 (of_decide_eq_true rfl) (hts (.fieldLink RX12 201 "ShortEnoughModel" "saysGreatest" "[J") zw_X12_breaks_1335) (fun _ h9 => h9) rfl dX12_breaks_115 ?_
          refine lv_iload_n hx hb dX12_breaks_118 rfl (lv_at hl 1 rfl) ?_
          refine va_lald hx hb hK hP 17 16 rfl rfl h_6 dX12_breaks_119 ?_
          refine va_last hx hb hK hP hD hS 13 12 rfl rfl h_6 dX12_breaks_120 (fun H locs hP hD hS => ?_)
          have hP : va_P (dC, dI) vwCl [(h0, .inr (12, zO a0 b0 c0)), zVi (a0 60) k1 14 f1, zVi (a0 12) k2 2 f2, zVi (a0 17) k3 2 f3, zVi (a0 27) k4 28 f4, zVi (a0 25) k5 28 f5, zVi (a0 39) k6 14 (upd f6 p1.toNatClampNeg (f1 p1.toNatClampNeg)), zVi (a0 19) k7 28 f7, zVi (a0 20) k8 28 f8, zVi (a0 21) k9 28 f9, zVl (a0 31) k10 14 (vp_updL o_7.1 p1.toNatClampNeg (f16 p1.toNatClampNeg)), zVl (a0 22) k11 28 f11, zVl (a0 23) k12 28 f12, zVl (a0 32) k13 14 (vp_updL o_7.2 p1.toNatClampNeg (f17 p1.toNatClampNeg)), zVi (a0 14) k14 8 f14, zVl (a0 40) k15 14 o_11, zVl (a0 61) k16 14 f16, zVl (a0 62) k17 14 f17, zVl (a0 63) k18 14 f18, zVi (a0 15) k19 8 f19, zVi (a0 26) k20 28 f20] H := hP
          have hD := zDW hD hP rfl
          refine lv_aload_n hx hb dX12_breaks_121 rfl (lv_at hl 0 rfl) ?_
          refine va_get (D := (dC, dI)) (ci := 12) (v := .ref (a0 40)) (C := RX12) (T := TX12) (N := 67) hx hb hts zn_X12_breaks_X12 hown hK hP 0 rfl rfl 40 (of_decide_eq_true rfl) (hts (.fieldLink RX12 135 "ShortEnoughModel" "error" "[J") zw_X12_breaks_1338) (fun _ h9 => h9) rfl dX12_breaks_122 ?_
          refine lv_iload_n hx hb dX12_breaks_125 rfl (lv_at hl 1 rfl) ?_
          refine lv_aload_n hx hb dX12_breaks_126 rfl (lv_at hl 0 rfl) ?_
          refine va_get (D := (dC, dI)) (ci := 12) (v := .ref (a0 63)) (C := RX12) (T := TX12) (N := 67) hx hb hts zn_X12_breaks_X12 hown hK hP 0 rfl rfl 63 (of_decide_eq_true rfl) (hts (.fieldLink RX12 204 "ShortEnoughModel" "saysError" "[J") zw_X12_breaks_1337) (fun _ h9 => h9) rfl dX12_breaks_127 ?_
          refine lv_iload_n hx hb dX12_breaks_130 rfl (lv_at hl 1 rfl) ?_
          refine va_lald hx hb hK hP 18 17 rfl rfl h_6 dX12_breaks_131 ?_
          refine va_last hx hb hK hP hD hS 15 14 rfl rfl h_6 dX12_breaks_132 (fun H locs hP hD hS => ?_)
          have hP : va_P (dC, dI) vwCl [(h0, .inr (12, zO a0 b0 c0)), zVi (a0 60) k1 14 f1, zVi (a0 12) k2 2 f2, zVi (a0 17) k3 2 f3, zVi (a0 27) k4 28 f4, zVi (a0 25) k5 28 f5, zVi (a0 39) k6 14 (upd f6 p1.toNatClampNeg (f1 p1.toNatClampNeg)), zVi (a0 19) k7 28 f7, zVi (a0 20) k8 28 f8, zVi (a0 21) k9 28 f9, zVl (a0 31) k10 14 (vp_updL o_7.1 p1.toNatClampNeg (f16 p1.toNatClampNeg)), zVl (a0 22) k11 28 f11, zVl (a0 23) k12 28 f12, zVl (a0 32) k13 14 (vp_updL o_7.2 p1.toNatClampNeg (f17 p1.toNatClampNeg)), zVi (a0 14) k14 8 f14, zVl (a0 40) k15 14 (vp_updL o_11 p1.toNatClampNeg (f18 p1.toNatClampNeg)), zVl (a0 61) k16 14 f16, zVl (a0 62) k17 14 f17, zVl (a0 63) k18 14 f18, zVi (a0 15) k19 8 f19, zVi (a0 26) k20 28 f20] H := hP
          have hD := zDW hD hP rfl
          refine lv_aload_n hx hb dX12_breaks_133 rfl (lv_at hl 0 rfl) ?_
          refine lv_iload_n hx hb dX12_breaks_134 rfl (lv_at hl 1 rfl) ?_
          obtain ⟨o_19, hqo_19, hfn⟩ := zb_s hfn
          refine zcVl (ci := 12) (rest := []) (pc' := 138) (ws' := [(h0, .inr (12, zO a0 b0 c0)), zVi (a0 60) k1 14 f1, zVi (a0 12) k2 2 f2, zVi (a0 17) k3 2 f3, zVi (a0 27) k4 28 f4, zVi (a0 25) k5 28 f5, zVi (a0 39) k6 14 (upd f6 p1.toNatClampNeg (f1 p1.toNatClampNeg)), zVi (a0 19) k7 28 f7, zVi (a0 20) k8 28 f8, zVi (a0 21) k9 28 f9, zVl (a0 31) k10 14 (vp_updL o_7.1 p1.toNatClampNeg (f16 p1.toNatClampNeg)), zVl (a0 22) k11 28 f11, zVl (a0 23) k12 28 f12, zVl (a0 32) k13 14 (vp_updL o_7.2 p1.toNatClampNeg (f17 p1.toNatClampNeg)), zVi (a0 14) k14 8 f14, zVl (a0 40) k15 14 (vp_updL o_11 p1.toNatClampNeg (f18 p1.toNatClampNeg)), zVl (a0 61) k16 14 f16, zVl (a0 62) k17 14 f17, zVl (a0 63) k18 14 f18, zVi (a0 15) k19 8 f19, zVi (a0 26) k20 28 f20]) hP hK hD hS hA ⟨hx, hb, hml, hown, hts⟩ (zf_X12_mostOf l dC dI h0 p1 a0 b0 c0 k10 (vp_updL o_7.1 p1.toNatClampNeg (f16 p1.toNatClampNeg)) k13 (vp_updL o_7.2 p1.toNatClampNeg (f17 p1.toNatClampNeg)) o_19 hqo_19 H.size) (cwV 1 hts gX12_breaks_X12_mostOf rfl rfl rfl zhd_X12_mostOf ⟨Nat.le_of_ble_eq_true rfl, Nat.le_of_ble_eq_true rfl⟩) [0, 10, 13] rfl (of_decide_eq_true rfl) [9, 12] rfl rfl rfl rfl hl.1 rfl (Nat.le_of_ble_eq_true rfl) dX12_breaks_135 ⟨Nat.le_of_ble_eq_true rfl, Nat.le_of_ble_eq_true rfl⟩ [some 0, none, none, none, none, none, none, none, none, none, some 1, none, none, some 2] (of_decide_eq_true rfl) (of_decide_eq_true rfl) rfl rfl rfl (fun H locs hP hD hS => ?_)
          refine lv_aload_n hx hb dX12_breaks_138 rfl (lv_at hl 0 rfl) ?_
          refine va_get (D := (dC, dI)) (ci := 12) (v := .ref (a0 40)) (C := RX12) (T := TX12) (N := 67) hx hb hts zn_X12_breaks_X12 hown hK hP 0 rfl rfl 40 (of_decide_eq_true rfl) (hts (.fieldLink RX12 135 "ShortEnoughModel" "error" "[J") zw_X12_breaks_1338) (fun _ h9 => h9) rfl dX12_breaks_139 ?_
          refine lv_iload_n hx hb dX12_breaks_142 rfl (lv_at hl 1 rfl) ?_
          refine va_lald hx hb hK hP 15 14 rfl rfl h_6 dX12_breaks_143 ?_
          refine lv_topl (fun x_23 ex_23 => ?_)
          have hfn := zn_s hfn ex_23
          refine lv_ladd hx hb dX12_breaks_144 ?_
          refine lv_aload_n hx hb dX12_breaks_145 rfl (lv_at hl 0 rfl) ?_
          refine va_get (D := (dC, dI)) (ci := 12) (v := .ref (a0 15)) (C := RX12) (T := TX12) (N := 67) hx hb hts zn_X12_breaks_X12 hown hK hP 0 rfl rfl 15 (of_decide_eq_true rfl) (hts (.fieldLink RX12 56 "ShortEnoughModel" "most" "[I") zw_X12_breaks_1339) (fun _ h9 => h9) rfl dX12_breaks_146 ?_
          refine lv_aload_n hx hb dX12_breaks_149 rfl (lv_at hl 0 rfl) ?_
          refine va_get (D := (dC, dI)) (ci := 12) (v := .ref (a0 39)) (C := RX12) (T := TX12) (N := 67) hx hb hts zn_X12_breaks_X12 hown hK hP 0 rfl rfl 39 (of_decide_eq_true rfl) (hts (.fieldLink RX12 132 "ShortEnoughModel" "tried" "[I") zw_X12_breaks_1331) (fun _ h9 => h9) rfl dX12_breaks_150 ?_
          refine lv_iload_n hx hb dX12_breaks_153 rfl (lv_at hl 1 rfl) ?_
          refine va_iald hx hb hK hP 6 5 rfl rfl h_6 dX12_breaks_154 ?_
          obtain ⟨h_24, hfn⟩ := zg_s hfn
          refine va_iald hx hb hK hP 19 18 rfl rfl h_24 dX12_breaks_155 ?_
          refine lv_topi (fun x_25 ex_25 => ?_)
          have hfn := zn_s hfn ex_25
          refine lv_i2l (v := x_25.toInt64) hx hb dX12_breaks_156 rfl ?_
          refine W.lcmp hx hb dX12_breaks_157 ?_
          refine lv_if_le (tgt := 163) hx hb dX12_breaks_158 (of_decide_eq_true rfl) (fun c_26 => ?_) (fun c_26 => ?_)
          · have hfn := (if_pos c_26).symm.trans hfn
            refine lv_aload_n hx hb dX12_breaks_163 rfl (lv_at hl 0 rfl) ?_
            refine va_get (D := (dC, dI)) (ci := 12) (v := .ref (a0 26)) (C := RX12) (T := TX12) (N := 67) hx hb hts zn_X12_breaks_X12 hown hK hP 0 rfl rfl 26 (of_decide_eq_true rfl) (hts (.fieldLink RX12 90 "ShortEnoughModel" "within" "[I") zw_X12_breaks_1340) (fun _ h9 => h9) rfl dX12_breaks_164 ?_
            refine lv_iload_n hx hb dX12_breaks_167 rfl (lv_at hl 1 rfl) ?_
            obtain ⟨h_27, hfn⟩ := zg_s hfn
            refine va_iald hx hb hK hP 20 19 rfl rfl h_27 dX12_breaks_168 ?_
            refine lv_iconst (v := (-1)) hx hb dX12_breaks_169 zci_m1 ?_
            refine lv_icmp_eq (tgt := 195) hx hb dX12_breaks_170 (of_decide_eq_true rfl) (fun c_28 => ?_) (fun c_28 => ?_)
            · have hfn := (if_pos c_28).symm.trans hfn
              refine lv_iconst (v := 0) hx hb dX12_breaks_195 zci_0 ?_
              have ho := Option.some.inj hfn
              subst ho
              exact zri hx hb hr hK hP hD hS hQ rfl hlocks dX12_breaks_196
            have hfn := (if_neg c_28).symm.trans hfn
            refine lv_aload_n hx hb dX12_breaks_173 rfl (lv_at hl 0 rfl) ?_
            refine va_get (D := (dC, dI)) (ci := 12) (v := .ref (a0 40)) (C := RX12) (T := TX12) (N := 67) hx hb hts zn_X12_breaks_X12 hown hK hP 0 rfl rfl 40 (of_decide_eq_true rfl) (hts (.fieldLink RX12 135 "ShortEnoughModel" "error" "[J") zw_X12_breaks_1338) (fun _ h9 => h9) rfl dX12_breaks_174 ?_
            refine lv_iload_n hx hb dX12_breaks_177 rfl (lv_at hl 1 rfl) ?_
            refine va_lald hx hb hK hP 15 14 rfl rfl h_6 dX12_breaks_178 ?_
            refine lv_topl (fun x_29 ex_29 => ?_)
            have hfn := zn_s hfn ex_29
            refine lv_aload_n hx hb dX12_breaks_179 rfl (lv_at hl 0 rfl) ?_
            refine va_get (D := (dC, dI)) (ci := 12) (v := .ref (a0 26)) (C := RX12) (T := TX12) (N := 67) hx hb hts zn_X12_breaks_X12 hown hK hP 0 rfl rfl 26 (of_decide_eq_true rfl) (hts (.fieldLink RX12 90 "ShortEnoughModel" "within" "[I") zw_X12_breaks_1340) (fun _ h9 => h9) rfl dX12_breaks_180 ?_
            refine lv_iload_n hx hb dX12_breaks_183 rfl (lv_at hl 1 rfl) ?_
            refine va_iald hx hb hK hP 20 19 rfl rfl h_27 dX12_breaks_184 ?_
            refine lv_i2l (v := (f20 p1.toNatClampNeg).toInt64) hx hb dX12_breaks_185 rfl ?_
            refine W.lcmp hx hb dX12_breaks_186 ?_
            refine lv_if_le (tgt := 195) hx hb dX12_breaks_187 (of_decide_eq_true rfl) (fun c_30 => ?_) (fun c_30 => ?_)
            · have hfn := (if_pos c_30).symm.trans hfn
              refine lv_iconst (v := 0) hx hb dX12_breaks_195 zci_0 ?_
              have ho := Option.some.inj hfn
              subst ho
              exact zri hx hb hr hK hP hD hS hQ rfl hlocks dX12_breaks_196
            have hfn := (if_neg c_30).symm.trans hfn
            refine lv_bipush (v := 6) hx hb dX12_breaks_190 zcb_6 ?_
            refine lv_goto (tgt := 196) hx hb dX12_breaks_192 (of_decide_eq_true rfl) ?_
            have ho := Option.some.inj hfn
            subst ho
            exact zri hx hb hr hK hP hD hS hQ rfl hlocks dX12_breaks_196
          have hfn := (if_neg c_26).symm.trans hfn
          refine lv_iconst (v := 5) hx hb dX12_breaks_161 zci_5 ?_
          have ho := Option.some.inj hfn
          subst ho
          exact zri hx hb hr hK hP hD hS hQ rfl hlocks dX12_breaks_162
        have hfn := (if_neg c_18).symm.trans hfn
        refine lv_iconst (v := 4) hx hb dX12_breaks_95 zci_4 ?_
        have ho := Option.some.inj hfn
        subst ho
        exact zri hx hb hr hK hP hD hS hQ rfl hlocks dX12_breaks_96
      have hfn := (if_neg c_16).symm.trans hfn
      refine lv_iconst (v := 3) hx hb dX12_breaks_66 zci_3 ?_
      have ho := Option.some.inj hfn
      subst ho
      exact zri hx hb hr hK hP hD hS hQ rfl hlocks dX12_breaks_67
    have hfn := (if_neg c_15).symm.trans hfn
    refine lv_iconst (v := 2) hx hb dX12_breaks_48 zci_2 ?_
    have ho := Option.some.inj hfn
    subst ho
    exact zri hx hb hr hK hP hD hS hQ rfl hlocks dX12_breaks_49
  have hfn := (if_pos c_5).symm.trans hfn
  refine lv_iconst (v := 1) hx hb dX12_breaks_8 zci_1 ?_
  have ho := Option.some.inj hfn
  subst ho
  exact zri hx hb hr hK hP hD hS hQ rfl hlocks dX12_breaks_9
theorem zn_X12_check_X12 : ∀ w ∈ wsX120, w ∈ wsX12_check := fun _ h => List.mem_cons_of_mem _ (List.mem_append_right _ h)
theorem zw_X12_check_1342 : Cond.fieldLink RX12 13 "ShortEnoughModel" "taped" "I" ∈ wsX12_check := List.mem_of_getElem? (i := 1) (by decide +kernel)
theorem zw_X12_check_1343 : Cond.fieldLink RX12 189 "ShortEnoughModel" "brokenAt" "I" ∈ wsX12_check := List.mem_of_getElem? (i := 2) (by decide +kernel)
theorem zw_X12_check_1344 : Cond.fieldLink RX12 192 "ShortEnoughModel" "brokenWhy" "I" ∈ wsX12_check := List.mem_of_getElem? (i := 3) (by decide +kernel)
theorem zw_X12_check_1345 : Cond.fieldLink RX12 62 "ShortEnoughModel" "numbers" "[I" ∈ wsX12_check := List.mem_of_getElem? (i := 4) (by decide +kernel)
theorem zw_X12_check_1346 : Cond.fieldLink RX12 112 "ShortEnoughModel" "wideNumber" "I" ∈ wsX12_check := List.mem_of_getElem? (i := 5) (by decide +kernel)
theorem zw_X12_check_1347 : Cond.fieldLink RX12 195 "ShortEnoughModel" "saysFormat" "[I" ∈ wsX12_check := List.mem_of_getElem? (i := 6) (by decide +kernel)
theorem zw_X12_check_1348 : Cond.fieldLink RX12 7 "ShortEnoughModel" "tape" "[I" ∈ wsX12_check := List.mem_of_getElem? (i := 7) (by decide +kernel)
theorem zw_X12_check_1349 : Cond.fieldLink RX12 198 "ShortEnoughModel" "saysLeast" "[J" ∈ wsX12_check := List.mem_of_getElem? (i := 8) (by decide +kernel)
theorem zw_X12_check_1350 : Cond.fieldLink RX12 201 "ShortEnoughModel" "saysGreatest" "[J" ∈ wsX12_check := List.mem_of_getElem? (i := 9) (by decide +kernel)
theorem zw_X12_check_1351 : Cond.fieldLink RX12 204 "ShortEnoughModel" "saysError" "[J" ∈ wsX12_check := List.mem_of_getElem? (i := 10) (by decide +kernel)
set_option maxHeartbeats 4000000 in
set_option maxRecDepth 100000 in
theorem zf_X12_check (l : Launch) (dC : Nat → ClassId) (dI : Nat → Nat → Nat) (h0 : Nat) (a0 : Nat → Nat) (b0 : Nat → Int32) (c0 : Nat → Int64) (k1 : Nat) (f1 : Nat → Int32) (k2 : Nat) (f2 : Nat → Int32) (k3 : Nat) (f3 : Nat → Int32) (k4 : Nat) (f4 : Nat → Int32) (k5 : Nat) (f5 : Nat → Int64) (k6 : Nat) (f6 : Nat → Int64) (k7 : Nat) (f7 : Nat → Int64) (k8 : Nat) (f8 : Nat → Int32) (k9 : Nat) (f9 : Nat → Int32) (k10 : Nat) (f10 : Nat → Int32) (k11 : Nat) (f11 : Nat → Int32) (k12 : Nat) (f12 : Nat → Int32) (k13 : Nat) (f13 : Nat → Int32) (k14 : Nat) (f14 : Nat → Int32) (k15 : Nat) (f15 : Nat → Int64) (k16 : Nat) (f16 : Nat → Int64) (k17 : Nat) (f17 : Nat → Int64) (k18 : Nat) (f18 : Nat → Int64) (k19 : Nat) (f19 : Nat → Int32) (k20 : Nat) (f20 : Nat → Int64) (k21 : Nat) (f21 : Nat → Int32) (k22 : Nat) (f22 : Nat → Int32) (o : Int32 × Int32 × Int32 × Int32 × Int32 × (Nat → Int32) × (Nat → Int32) × (Nat → Int64) × (Nat → Int64) × (Nat → Int64) × (Nat → Int32) × (Nat → Int64) × (Nat → Int64) × (Nat → Int64)) (hfn : fn_X12_check (b0 1) (b0 33) (c0 34) f1 f2 f3 f4 f5 f6 f7 f8 f9 f10 f11 f12 f13 f14 f15 f16 f17 f18 f19 f20 f21 f22 = some o) (sz : Nat) : zMi l yX12_check wsX12_check ({ frames := 5, cells := 0, slots := 0, locals := 134 }) (dC, dI) vwCl [.ref h0] [(h0, .inr (12, zO a0 b0 c0)), zVi (a0 17) k1 2 f1, zVi (a0 2) k2 5 f2, zVi (a0 0) k3 1200 f3, zVi (a0 60) k4 14 f4, zVl (a0 61) k5 14 f5, zVl (a0 62) k6 14 f6, zVl (a0 63) k7 14 f7, zVi (a0 12) k8 2 f8, zVi (a0 27) k9 28 f9, zVi (a0 25) k10 28 f10, zVi (a0 39) k11 14 f11, zVi (a0 19) k12 28 f12, zVi (a0 20) k13 28 f13, zVi (a0 21) k14 28 f14, zVl (a0 31) k15 14 f15, zVl (a0 22) k16 28 f16, zVl (a0 23) k17 28 f17, zVl (a0 32) k18 14 f18, zVi (a0 14) k19 8 f19, zVl (a0 40) k20 14 f20, zVi (a0 15) k21 8 f21, zVi (a0 26) k22 28 f22] [(k1, .int), (k2, .int), (k3, .int), (k4, .int), (k5, .long), (k6, .long), (k7, .long), (k8, .int), (k9, .int), (k10, .int), (k11, .int), (k12, .int), (k13, .int), (k14, .int), (k15, .long), (k16, .long), (k17, .long), (k18, .long), (k19, .int), (k20, .long), (k21, .int), (k22, .int)] (fun r _ => r = o.1 ∧ narrow .boolean (.int o.1) = .int o.1) [(h0, .inr (12, zO a0 (zI (zI (zI (zI b0 1 o.2.1) 33 o.2.2.1) 58 o.2.2.2.1) 59 o.2.2.2.2.1) c0)), zVi (a0 17) k1 2 f1, zVi (a0 2) k2 5 o.2.2.2.2.2.1, zVi (a0 0) k3 1200 f3, zVi (a0 60) k4 14 o.2.2.2.2.2.2.1, zVl (a0 61) k5 14 o.2.2.2.2.2.2.2.1, zVl (a0 62) k6 14 o.2.2.2.2.2.2.2.2.1, zVl (a0 63) k7 14 o.2.2.2.2.2.2.2.2.2.1, zVi (a0 12) k8 2 f8, zVi (a0 27) k9 28 f9, zVi (a0 25) k10 28 f10, zVi (a0 39) k11 14 o.2.2.2.2.2.2.2.2.2.2.1, zVi (a0 19) k12 28 f12, zVi (a0 20) k13 28 f13, zVi (a0 21) k14 28 f14, zVl (a0 31) k15 14 o.2.2.2.2.2.2.2.2.2.2.2.1, zVl (a0 22) k16 28 f16, zVl (a0 23) k17 28 f17, zVl (a0 32) k18 14 o.2.2.2.2.2.2.2.2.2.2.2.2.1, zVi (a0 14) k19 8 f19, zVl (a0 40) k20 14 o.2.2.2.2.2.2.2.2.2.2.2.2.2, zVi (a0 15) k21 8 f21, zVi (a0 26) k22 28 f22] [(k1, .int), (k2, .int), (k3, .int), (k4, .int), (k5, .long), (k6, .long), (k7, .long), (k8, .int), (k9, .int), (k10, .int), (k11, .int), (k12, .int), (k13, .int), (k14, .int), (k15, .long), (k16, .long), (k17, .long), (k18, .long), (k19, .int), (k20, .long), (k21, .int), (k22, .int)] sz := by
  refine zgoi (cc := cX12_check) (maxL := 4) (ret := (some .boolean)) (C0 := RX12) (lv0 := [(0, .ref h0)]) zpl_X12 rfl rfl rfl (Nat.le_of_ble_eq_true rfl) ?_
  intro p e s m below meth c A ls Q hx hb hr hts hown hlocks hml hP hK hD hA hS hl hQ
  unfold fn_X12_check at hfn
  refine lv_aload_n hx hb dX12_check_0 rfl (lv_at hl 0 rfl) ?_
  refine va_get (D := (dC, dI)) (ci := 12) (v := .int (b0 1)) (C := RX12) (T := TX12) (N := 67) hx hb hts zn_X12_check_X12 hown hK hP 0 rfl rfl 1 (of_decide_eq_true rfl) (hts (.fieldLink RX12 13 "ShortEnoughModel" "taped" "I") zw_X12_check_1342) (fun _ h9 => h9) rfl dX12_check_1 ?_
  refine lv_istore_n (lv' := [(1, .int (b0 1)), (0, .ref h0)]) hx hb dX12_check_4 rfl hl (of_decide_eq_true rfl) rfl (fun ls hl => ?_)
  refine lv_aload_n hx hb dX12_check_5 rfl (lv_at hl 1 rfl) ?_
  refine lv_iconst (v := 0) hx hb dX12_check_6 zci_0 ?_
  refine va_put (D := (dC, dI)) (ci := 12) (v := .int 0) (ty := .int) (C := RX12) (T := TX12) (N := 67) hx hb hts zn_X12_check_X12 tyX12 tyX12_ok nmX12 hown hK hP hD hS 0 rfl rfl 1 (of_decide_eq_true rfl) (hts (.fieldLink RX12 13 "ShortEnoughModel" "taped" "I") zw_X12_check_1342) (fun _ h9 => h9) rfl (tyX12_ok 1 (of_decide_eq_true rfl)) rfl rfl (Nat.le_of_ble_eq_true rfl) dX12_check_7 (fun H locs hP hD hS => ?_)
  have hP : va_P (dC, dI) vwCl [(h0, .inr (12, zO a0 (zI b0 1 0) c0)), zVi (a0 17) k1 2 f1, zVi (a0 2) k2 5 f2, zVi (a0 0) k3 1200 f3, zVi (a0 60) k4 14 f4, zVl (a0 61) k5 14 f5, zVl (a0 62) k6 14 f6, zVl (a0 63) k7 14 f7, zVi (a0 12) k8 2 f8, zVi (a0 27) k9 28 f9, zVi (a0 25) k10 28 f10, zVi (a0 39) k11 14 f11, zVi (a0 19) k12 28 f12, zVi (a0 20) k13 28 f13, zVi (a0 21) k14 28 f14, zVl (a0 31) k15 14 f15, zVl (a0 22) k16 28 f16, zVl (a0 23) k17 28 f17, zVl (a0 32) k18 14 f18, zVi (a0 14) k19 8 f19, zVl (a0 40) k20 14 f20, zVi (a0 15) k21 8 f21, zVi (a0 26) k22 28 f22] H := hP
  have hD := zDW hD hP rfl
  refine lv_aload_n hx hb dX12_check_10 rfl (lv_at hl 1 rfl) ?_
  refine lv_iconst (v := (-1)) hx hb dX12_check_11 zci_m1 ?_
  refine va_put (D := (dC, dI)) (ci := 12) (v := .int (-1)) (ty := .int) (C := RX12) (T := TX12) (N := 67) hx hb hts zn_X12_check_X12 tyX12 tyX12_ok nmX12 hown hK hP hD hS 0 rfl rfl 58 (of_decide_eq_true rfl) (hts (.fieldLink RX12 189 "ShortEnoughModel" "brokenAt" "I") zw_X12_check_1343) (fun _ h9 => h9) rfl (tyX12_ok 58 (of_decide_eq_true rfl)) rfl rfl (Nat.le_of_ble_eq_true rfl) dX12_check_12 (fun H locs hP hD hS => ?_)
  have hP : va_P (dC, dI) vwCl [(h0, .inr (12, zO a0 (zI (zI b0 1 0) 58 (-1)) c0)), zVi (a0 17) k1 2 f1, zVi (a0 2) k2 5 f2, zVi (a0 0) k3 1200 f3, zVi (a0 60) k4 14 f4, zVl (a0 61) k5 14 f5, zVl (a0 62) k6 14 f6, zVl (a0 63) k7 14 f7, zVi (a0 12) k8 2 f8, zVi (a0 27) k9 28 f9, zVi (a0 25) k10 28 f10, zVi (a0 39) k11 14 f11, zVi (a0 19) k12 28 f12, zVi (a0 20) k13 28 f13, zVi (a0 21) k14 28 f14, zVl (a0 31) k15 14 f15, zVl (a0 22) k16 28 f16, zVl (a0 23) k17 28 f17, zVl (a0 32) k18 14 f18, zVi (a0 14) k19 8 f19, zVl (a0 40) k20 14 f20, zVi (a0 15) k21 8 f21, zVi (a0 26) k22 28 f22] H := hP
  have hD := zDW hD hP rfl
  refine lv_aload_n hx hb dX12_check_15 rfl (lv_at hl 1 rfl) ?_
  refine lv_iconst (v := (-1)) hx hb dX12_check_16 zci_m1 ?_
  refine va_put (D := (dC, dI)) (ci := 12) (v := .int (-1)) (ty := .int) (C := RX12) (T := TX12) (N := 67) hx hb hts zn_X12_check_X12 tyX12 tyX12_ok nmX12 hown hK hP hD hS 0 rfl rfl 59 (of_decide_eq_true rfl) (hts (.fieldLink RX12 192 "ShortEnoughModel" "brokenWhy" "I") zw_X12_check_1344) (fun _ h9 => h9) rfl (tyX12_ok 59 (of_decide_eq_true rfl)) rfl rfl (Nat.le_of_ble_eq_true rfl) dX12_check_17 (fun H locs hP hD hS => ?_)
  have hP : va_P (dC, dI) vwCl [(h0, .inr (12, zO a0 (zI (zI (zI b0 1 0) 58 (-1)) 59 (-1)) c0)), zVi (a0 17) k1 2 f1, zVi (a0 2) k2 5 f2, zVi (a0 0) k3 1200 f3, zVi (a0 60) k4 14 f4, zVl (a0 61) k5 14 f5, zVl (a0 62) k6 14 f6, zVl (a0 63) k7 14 f7, zVi (a0 12) k8 2 f8, zVi (a0 27) k9 28 f9, zVi (a0 25) k10 28 f10, zVi (a0 39) k11 14 f11, zVi (a0 19) k12 28 f12, zVi (a0 20) k13 28 f13, zVi (a0 21) k14 28 f14, zVl (a0 31) k15 14 f15, zVl (a0 22) k16 28 f16, zVl (a0 23) k17 28 f17, zVl (a0 32) k18 14 f18, zVi (a0 14) k19 8 f19, zVl (a0 40) k20 14 f20, zVi (a0 15) k21 8 f21, zVi (a0 26) k22 28 f22] H := hP
  have hD := zDW hD hP rfl
  refine lv_aload_n hx hb dX12_check_20 rfl (lv_at hl 1 rfl) ?_
  refine va_get (D := (dC, dI)) (ci := 12) (v := .ref (a0 17)) (C := RX12) (T := TX12) (N := 67) hx hb hts zn_X12_check_X12 hown hK hP 0 rfl rfl 17 (of_decide_eq_true rfl) (hts (.fieldLink RX12 62 "ShortEnoughModel" "numbers" "[I") zw_X12_check_1345) (fun _ h9 => h9) rfl dX12_check_21 ?_
  refine lv_iconst (v := 0) hx hb dX12_check_24 zci_0 ?_
  refine va_iald hx hb hK hP 1 0 rfl rfl (zv_in (by decide +kernel)) dX12_check_25 ?_
  refine lv_if_eq (tgt := 42) hx hb dX12_check_26 (of_decide_eq_true rfl) (fun c_1 => ?_) (fun c_1 => ?_)
  · have hfn := (if_pos c_1).symm.trans hfn
    refine lv_aload_n hx hb dX12_check_42 rfl (lv_at hl 1 rfl) ?_
    refine lv_iconst (v := 3) hx hb dX12_check_43 zci_3 ?_
    obtain ⟨o_2, hqo_2, hfn⟩ := zb_s hfn
    refine zcVb (ci := 12) (rest := []) (pc' := 47) (ws' := [(h0, .inr (12, zO a0 (zI (zI (zI b0 1 0) 58 (-1)) 59 (-1)) c0)), zVi (a0 17) k1 2 f1, zVi (a0 2) k2 5 o_2.2, zVi (a0 0) k3 1200 f3, zVi (a0 60) k4 14 f4, zVl (a0 61) k5 14 f5, zVl (a0 62) k6 14 f6, zVl (a0 63) k7 14 f7, zVi (a0 12) k8 2 f8, zVi (a0 27) k9 28 f9, zVi (a0 25) k10 28 f10, zVi (a0 39) k11 14 f11, zVi (a0 19) k12 28 f12, zVi (a0 20) k13 28 f13, zVi (a0 21) k14 28 f14, zVl (a0 31) k15 14 f15, zVl (a0 22) k16 28 f16, zVl (a0 23) k17 28 f17, zVl (a0 32) k18 14 f18, zVi (a0 14) k19 8 f19, zVl (a0 40) k20 14 f20, zVi (a0 15) k21 8 f21, zVi (a0 26) k22 28 f22]) hP hK hD hS hA ⟨hx, hb, hml, hown, hts⟩ (zf_X12_isRefused l dC dI h0 3 a0 (zI (zI (zI b0 1 0) 58 (-1)) 59 (-1)) c0 k2 f2 o_2 hqo_2 H.size) (cwV 1 hts gX12_check_X12_isRefused rfl rfl rfl zhd_X12_isRefused ⟨Nat.le_of_ble_eq_true rfl, Nat.le_of_ble_eq_true rfl⟩) [0, 2] rfl (of_decide_eq_true rfl) [1] rfl rfl rfl rfl hl.1 rfl (Nat.le_of_ble_eq_true rfl) dX12_check_44 ⟨Nat.le_of_ble_eq_true rfl, Nat.le_of_ble_eq_true rfl⟩ [some 0, none, some 1] (of_decide_eq_true rfl) (of_decide_eq_true rfl) rfl rfl rfl (fun H locs hw_5n hP hD hS => ?_)
    have ho := Option.some.inj hfn
    subst ho
    exact zrz hx hb hr hw_5n hK hP hD hS hQ ⟨rfl, hw_5n⟩ hlocks dX12_check_47
  have hfn := (if_neg c_1).symm.trans hfn
  refine lv_iload_n hx hb dX12_check_29 rfl (lv_at hl 0 rfl) ?_
  refine lv_bipush (v := 25) hx hb dX12_check_30 zcb_25 ?_
  refine lv_aload_n hx hb dX12_check_32 rfl (lv_at hl 1 rfl) ?_
  refine va_get (D := (dC, dI)) (ci := 12) (v := .ref (a0 17)) (C := RX12) (T := TX12) (N := 67) hx hb hts zn_X12_check_X12 hown hK hP 0 rfl rfl 17 (of_decide_eq_true rfl) (hts (.fieldLink RX12 62 "ShortEnoughModel" "numbers" "[I") zw_X12_check_1345) (fun _ h9 => h9) rfl dX12_check_33 ?_
  refine lv_iconst (v := 0) hx hb dX12_check_36 zci_0 ?_
  refine va_iald hx hb hK hP 1 0 rfl rfl (zv_in (by decide +kernel)) dX12_check_37 ?_
  refine lv_imul hx hb dX12_check_38 ?_
  refine lv_icmp_eq (tgt := 48) hx hb dX12_check_39 (of_decide_eq_true rfl) (fun c_6 => ?_) (fun c_6 => ?_)
  · have hfn := (if_pos c_6).symm.trans hfn
    refine lv_aload_n hx hb dX12_check_48 rfl (lv_at hl 1 rfl) ?_
    refine lv_iconst (v := (-1)) hx hb dX12_check_49 zci_m1 ?_
    refine va_put (D := (dC, dI)) (ci := 12) (v := .int (-1)) (ty := .int) (C := RX12) (T := TX12) (N := 67) hx hb hts zn_X12_check_X12 tyX12 tyX12_ok nmX12 hown hK hP hD hS 0 rfl rfl 33 (of_decide_eq_true rfl) (hts (.fieldLink RX12 112 "ShortEnoughModel" "wideNumber" "I") zw_X12_check_1346) (fun _ h9 => h9) rfl (tyX12_ok 33 (of_decide_eq_true rfl)) rfl rfl (Nat.le_of_ble_eq_true rfl) dX12_check_50 (fun H locs hP hD hS => ?_)
    have hP : va_P (dC, dI) vwCl [(h0, .inr (12, zO a0 (zI (zI (zI (zI b0 1 0) 33 (-1)) 58 (-1)) 59 (-1)) c0)), zVi (a0 17) k1 2 f1, zVi (a0 2) k2 5 f2, zVi (a0 0) k3 1200 f3, zVi (a0 60) k4 14 f4, zVl (a0 61) k5 14 f5, zVl (a0 62) k6 14 f6, zVl (a0 63) k7 14 f7, zVi (a0 12) k8 2 f8, zVi (a0 27) k9 28 f9, zVi (a0 25) k10 28 f10, zVi (a0 39) k11 14 f11, zVi (a0 19) k12 28 f12, zVi (a0 20) k13 28 f13, zVi (a0 21) k14 28 f14, zVl (a0 31) k15 14 f15, zVl (a0 22) k16 28 f16, zVl (a0 23) k17 28 f17, zVl (a0 32) k18 14 f18, zVi (a0 14) k19 8 f19, zVl (a0 40) k20 14 f20, zVi (a0 15) k21 8 f21, zVi (a0 26) k22 28 f22] H := hP
    have hD := zDW hD hP rfl
    refine lv_iconst (v := 0) hx hb dX12_check_53 zci_0 ?_
    refine lv_istore_n (lv' := [(2, .int 0), (1, .int (b0 1)), (0, .ref h0)]) hx hb dX12_check_54 rfl hl (of_decide_eq_true rfl) rfl (fun ls hl => ?_)
    obtain ⟨bd_7, ebd_7, hfn⟩ := zl_g hfn
    have lp_7 : ∀ (n : Nat) (s_7 : Int32 × (Nat → Int32) × (Nat → Int64) × (Nat → Int64) × (Nat → Int64)) (H : Heap) (locs : List Loc) (ls : Array Slot), zl bd_7 n s_7 = some o → va_P (dC, dI) vwCl [(h0, .inr (12, zO a0 (zI (zI (zI (zI b0 1 0) 33 (-1)) 58 (-1)) 59 (-1)) c0)), zVi (a0 17) k1 2 f1, zVi (a0 2) k2 5 f2, zVi (a0 0) k3 1200 f3, zVi (a0 60) k4 14 s_7.2.1, zVl (a0 61) k5 14 s_7.2.2.1, zVl (a0 62) k6 14 s_7.2.2.2.1, zVl (a0 63) k7 14 s_7.2.2.2.2, zVi (a0 12) k8 2 f8, zVi (a0 27) k9 28 f9, zVi (a0 25) k10 28 f10, zVi (a0 39) k11 14 f11, zVi (a0 19) k12 28 f12, zVi (a0 20) k13 28 f13, zVi (a0 21) k14 28 f14, zVl (a0 31) k15 14 f15, zVl (a0 22) k16 28 f16, zVl (a0 23) k17 28 f17, zVl (a0 32) k18 14 f18, zVi (a0 14) k19 8 f19, zVl (a0 40) k20 14 f20, zVi (a0 15) k21 8 f21, zVi (a0 26) k22 28 f22] H → va_D A [(h0, .inr (12, zO a0 (zI (zI (zI (zI b0 1 0) 33 (-1)) 58 (-1)) 59 (-1)) c0)), zVi (a0 17) k1 2 f1, zVi (a0 2) k2 5 f2, zVi (a0 0) k3 1200 f3, zVi (a0 60) k4 14 s_7.2.1, zVl (a0 61) k5 14 s_7.2.2.1, zVl (a0 62) k6 14 s_7.2.2.2.1, zVl (a0 63) k7 14 s_7.2.2.2.2, zVi (a0 12) k8 2 f8, zVi (a0 27) k9 28 f9, zVi (a0 25) k10 28 f10, zVi (a0 39) k11 14 f11, zVi (a0 19) k12 28 f12, zVi (a0 20) k13 28 f13, zVi (a0 21) k14 28 f14, zVl (a0 31) k15 14 f15, zVl (a0 22) k16 28 f16, zVl (a0 23) k17 28 f17, zVl (a0 32) k18 14 f18, zVi (a0 14) k19 8 f19, zVl (a0 40) k20 14 f20, zVi (a0 15) k21 8 f21, zVi (a0 26) k22 28 f22] → va_S A s.heap H locs → lv_has ls 4 [(2, .int s_7.1), (0, .ref h0)] → W p l e (headSpec wsX12_check ({ frames := 5, cells := 0, slots := 0, locals := 134 })).room s m ([.ref h0] : List Value).toArray below meth c H locs 0 0 Q (F0 m 55 ls []) := by
      intro n
      induction n with
      | zero => exact fun _ _ _ _ hfn => (zl_0 hfn).elim
      | succ n ih_7 =>
        intro s_7 H locs ls hfn hP hD hS hl
        have hfn := zl_s ebd_7 hfn
        refine lv_iload_n hx hb dX12_check_55 rfl (lv_at hl 0 rfl) ?_
        refine lv_aload_n hx hb dX12_check_56 rfl (lv_at hl 1 rfl) ?_
        refine va_get (D := (dC, dI)) (ci := 12) (v := .ref (a0 17)) (C := RX12) (T := TX12) (N := 67) hx hb hts zn_X12_check_X12 hown hK hP 0 rfl rfl 17 (of_decide_eq_true rfl) (hts (.fieldLink RX12 62 "ShortEnoughModel" "numbers" "[I") zw_X12_check_1345) (fun _ h9 => h9) rfl dX12_check_57 ?_
        refine lv_iconst (v := 0) hx hb dX12_check_60 zci_0 ?_
        refine va_iald hx hb hK hP 1 0 rfl rfl (zv_in (by decide +kernel)) dX12_check_61 ?_
        refine lv_icmp_ge (tgt := 136) hx hb dX12_check_62 (of_decide_eq_true rfl) (fun c_8 => ?_) (fun c_8 => ?_)
        · have hfn := (if_pos c_8).symm.trans hfn
          refine lv_iconst (v := 0) hx hb dX12_check_136 zci_0 ?_
          refine lv_istore_n (lv' := [(2, .int 0), (0, .ref h0)]) hx hb dX12_check_137 rfl hl (of_decide_eq_true rfl) rfl (fun ls hl => ?_)
          obtain ⟨bd_9, ebd_9, hfn⟩ := zl_g hfn
          have lp_9 : ∀ (n : Nat) (s_9 : Int32 × (Nat → Int64) × (Nat → Int64) × (Nat → Int32) × (Nat → Int64)) (H : Heap) (locs : List Loc) (ls : Array Slot), zl bd_9 n s_9 = some o → va_P (dC, dI) vwCl [(h0, .inr (12, zO a0 (zI (zI (zI (zI b0 1 0) 33 (-1)) 58 (-1)) 59 (-1)) c0)), zVi (a0 17) k1 2 f1, zVi (a0 2) k2 5 f2, zVi (a0 0) k3 1200 f3, zVi (a0 60) k4 14 s_7.2.1, zVl (a0 61) k5 14 s_7.2.2.1, zVl (a0 62) k6 14 s_7.2.2.2.1, zVl (a0 63) k7 14 s_7.2.2.2.2, zVi (a0 12) k8 2 f8, zVi (a0 27) k9 28 f9, zVi (a0 25) k10 28 f10, zVi (a0 39) k11 14 s_9.2.2.2.1, zVi (a0 19) k12 28 f12, zVi (a0 20) k13 28 f13, zVi (a0 21) k14 28 f14, zVl (a0 31) k15 14 s_9.2.1, zVl (a0 22) k16 28 f16, zVl (a0 23) k17 28 f17, zVl (a0 32) k18 14 s_9.2.2.1, zVi (a0 14) k19 8 f19, zVl (a0 40) k20 14 s_9.2.2.2.2, zVi (a0 15) k21 8 f21, zVi (a0 26) k22 28 f22] H → va_D A [(h0, .inr (12, zO a0 (zI (zI (zI (zI b0 1 0) 33 (-1)) 58 (-1)) 59 (-1)) c0)), zVi (a0 17) k1 2 f1, zVi (a0 2) k2 5 f2, zVi (a0 0) k3 1200 f3, zVi (a0 60) k4 14 s_7.2.1, zVl (a0 61) k5 14 s_7.2.2.1, zVl (a0 62) k6 14 s_7.2.2.2.1, zVl (a0 63) k7 14 s_7.2.2.2.2, zVi (a0 12) k8 2 f8, zVi (a0 27) k9 28 f9, zVi (a0 25) k10 28 f10, zVi (a0 39) k11 14 s_9.2.2.2.1, zVi (a0 19) k12 28 f12, zVi (a0 20) k13 28 f13, zVi (a0 21) k14 28 f14, zVl (a0 31) k15 14 s_9.2.1, zVl (a0 22) k16 28 f16, zVl (a0 23) k17 28 f17, zVl (a0 32) k18 14 s_9.2.2.1, zVi (a0 14) k19 8 f19, zVl (a0 40) k20 14 s_9.2.2.2.2, zVi (a0 15) k21 8 f21, zVi (a0 26) k22 28 f22] → va_S A s.heap H locs → lv_has ls 4 [(2, .int s_9.1), (0, .ref h0)] → W p l e (headSpec wsX12_check ({ frames := 5, cells := 0, slots := 0, locals := 134 })).room s m ([.ref h0] : List Value).toArray below meth c H locs 0 0 Q (F0 m 138 ls []) := by
            intro n
            induction n with
            | zero => exact fun _ _ _ _ hfn => (zl_0 hfn).elim
            | succ n ih_9 =>
              intro s_9 H locs ls hfn hP hD hS hl
              have hfn := zl_s ebd_9 hfn
              refine lv_iload_n hx hb dX12_check_138 rfl (lv_at hl 0 rfl) ?_
              refine lv_aload_n hx hb dX12_check_139 rfl (lv_at hl 1 rfl) ?_
              refine va_get (D := (dC, dI)) (ci := 12) (v := .ref (a0 17)) (C := RX12) (T := TX12) (N := 67) hx hb hts zn_X12_check_X12 hown hK hP 0 rfl rfl 17 (of_decide_eq_true rfl) (hts (.fieldLink RX12 62 "ShortEnoughModel" "numbers" "[I") zw_X12_check_1345) (fun _ h9 => h9) rfl dX12_check_140 ?_
              refine lv_iconst (v := 0) hx hb dX12_check_143 zci_0 ?_
              refine va_iald hx hb hK hP 1 0 rfl rfl (zv_in (by decide +kernel)) dX12_check_144 ?_
              refine lv_icmp_ge (tgt := 183) hx hb dX12_check_145 (of_decide_eq_true rfl) (fun c_10 => ?_) (fun c_10 => ?_)
              · have hfn := (if_pos c_10).symm.trans hfn
                refine lv_aload_n hx hb dX12_check_183 rfl (lv_at hl 1 rfl) ?_
                refine lv_bipush (v := (-2)) hx hb dX12_check_184 zcb_m2 ?_
                refine va_put (D := (dC, dI)) (ci := 12) (v := .int (-2)) (ty := .int) (C := RX12) (T := TX12) (N := 67) hx hb hts zn_X12_check_X12 tyX12 tyX12_ok nmX12 hown hK hP hD hS 0 rfl rfl 58 (of_decide_eq_true rfl) (hts (.fieldLink RX12 189 "ShortEnoughModel" "brokenAt" "I") zw_X12_check_1343) (fun _ h9 => h9) rfl (tyX12_ok 58 (of_decide_eq_true rfl)) rfl rfl (Nat.le_of_ble_eq_true rfl) dX12_check_186 (fun H locs hP hD hS => ?_)
                have hP : va_P (dC, dI) vwCl [(h0, .inr (12, zO a0 (zI (zI (zI (zI b0 1 0) 33 (-1)) 58 (-2)) 59 (-1)) c0)), zVi (a0 17) k1 2 f1, zVi (a0 2) k2 5 f2, zVi (a0 0) k3 1200 f3, zVi (a0 60) k4 14 s_7.2.1, zVl (a0 61) k5 14 s_7.2.2.1, zVl (a0 62) k6 14 s_7.2.2.2.1, zVl (a0 63) k7 14 s_7.2.2.2.2, zVi (a0 12) k8 2 f8, zVi (a0 27) k9 28 f9, zVi (a0 25) k10 28 f10, zVi (a0 39) k11 14 s_9.2.2.2.1, zVi (a0 19) k12 28 f12, zVi (a0 20) k13 28 f13, zVi (a0 21) k14 28 f14, zVl (a0 31) k15 14 s_9.2.1, zVl (a0 22) k16 28 f16, zVl (a0 23) k17 28 f17, zVl (a0 32) k18 14 s_9.2.2.1, zVi (a0 14) k19 8 f19, zVl (a0 40) k20 14 s_9.2.2.2.2, zVi (a0 15) k21 8 f21, zVi (a0 26) k22 28 f22] H := hP
                have hD := zDW hD hP rfl
                refine lv_aload_n hx hb dX12_check_189 rfl (lv_at hl 1 rfl) ?_
                refine lv_iconst (v := 0) hx hb dX12_check_190 zci_0 ?_
                refine va_put (D := (dC, dI)) (ci := 12) (v := .int 0) (ty := .int) (C := RX12) (T := TX12) (N := 67) hx hb hts zn_X12_check_X12 tyX12 tyX12_ok nmX12 hown hK hP hD hS 0 rfl rfl 59 (of_decide_eq_true rfl) (hts (.fieldLink RX12 192 "ShortEnoughModel" "brokenWhy" "I") zw_X12_check_1344) (fun _ h9 => h9) rfl (tyX12_ok 59 (of_decide_eq_true rfl)) rfl rfl (Nat.le_of_ble_eq_true rfl) dX12_check_191 (fun H locs hP hD hS => ?_)
                have hP : va_P (dC, dI) vwCl [(h0, .inr (12, zO a0 (zI (zI (zI (zI b0 1 0) 33 (-1)) 58 (-2)) 59 0) c0)), zVi (a0 17) k1 2 f1, zVi (a0 2) k2 5 f2, zVi (a0 0) k3 1200 f3, zVi (a0 60) k4 14 s_7.2.1, zVl (a0 61) k5 14 s_7.2.2.1, zVl (a0 62) k6 14 s_7.2.2.2.1, zVl (a0 63) k7 14 s_7.2.2.2.2, zVi (a0 12) k8 2 f8, zVi (a0 27) k9 28 f9, zVi (a0 25) k10 28 f10, zVi (a0 39) k11 14 s_9.2.2.2.1, zVi (a0 19) k12 28 f12, zVi (a0 20) k13 28 f13, zVi (a0 21) k14 28 f14, zVl (a0 31) k15 14 s_9.2.1, zVl (a0 22) k16 28 f16, zVl (a0 23) k17 28 f17, zVl (a0 32) k18 14 s_9.2.2.1, zVi (a0 14) k19 8 f19, zVl (a0 40) k20 14 s_9.2.2.2.2, zVi (a0 15) k21 8 f21, zVi (a0 26) k22 28 f22] H := hP
                have hD := zDW hD hP rfl
                refine lv_iconst (v := 1) hx hb dX12_check_194 zci_1 ?_
                have ho := Option.some.inj hfn
                subst ho
                exact zrz hx hb hr rfl hK hP hD hS hQ ⟨rfl, zB1⟩ hlocks dX12_check_195
              have hfn := (if_neg c_10).symm.trans hfn
              refine lv_aload_n hx hb dX12_check_148 rfl (lv_at hl 1 rfl) ?_
              refine lv_iload_n hx hb dX12_check_149 rfl (lv_at hl 0 rfl) ?_
              obtain ⟨o_11, hqo_11, hfn⟩ := zb_s hfn
              refine zcVi (ci := 12) (rest := []) (pc' := 153) (ws' := [(h0, .inr (12, zO a0 (zI (zI (zI (zI b0 1 0) 33 (-1)) 58 (-1)) 59 (-1)) c0)), zVi (a0 17) k1 2 f1, zVi (a0 2) k2 5 f2, zVi (a0 0) k3 1200 f3, zVi (a0 60) k4 14 s_7.2.1, zVl (a0 61) k5 14 s_7.2.2.1, zVl (a0 62) k6 14 s_7.2.2.2.1, zVl (a0 63) k7 14 s_7.2.2.2.2, zVi (a0 12) k8 2 f8, zVi (a0 27) k9 28 f9, zVi (a0 25) k10 28 f10, zVi (a0 39) k11 14 o_11.2.1, zVi (a0 19) k12 28 f12, zVi (a0 20) k13 28 f13, zVi (a0 21) k14 28 f14, zVl (a0 31) k15 14 o_11.2.2.1, zVl (a0 22) k16 28 f16, zVl (a0 23) k17 28 f17, zVl (a0 32) k18 14 o_11.2.2.2.1, zVi (a0 14) k19 8 f19, zVl (a0 40) k20 14 o_11.2.2.2.2, zVi (a0 15) k21 8 f21, zVi (a0 26) k22 28 f22]) hP hK hD hS hA ⟨hx, hb, hml, hown, hts⟩ (zf_X12_breaks l dC dI h0 s_9.1 a0 (zI (zI (zI (zI b0 1 0) 33 (-1)) 58 (-1)) 59 (-1)) c0 k4 s_7.2.1 k8 f8 k1 f1 k9 f9 k10 f10 k11 s_9.2.2.2.1 k12 f12 k13 f13 k14 f14 k15 s_9.2.1 k16 f16 k17 f17 k18 s_9.2.2.1 k19 f19 k20 s_9.2.2.2.2 k5 s_7.2.2.1 k6 s_7.2.2.2.1 k7 s_7.2.2.2.2 k21 f21 k22 f22 o_11 hqo_11 H.size) (cwV 1 hts gX12_check_X12_breaks rfl rfl rfl zhd_X12_breaks ⟨Nat.le_of_ble_eq_true rfl, Nat.le_of_ble_eq_true rfl⟩) [0, 4, 8, 1, 9, 10, 11, 12, 13, 14, 15, 16, 17, 18, 19, 20, 5, 6, 7, 21, 22] rfl (of_decide_eq_true rfl) [3, 7, 0, 8, 9, 10, 11, 12, 13, 14, 15, 16, 17, 18, 19, 4, 5, 6, 20, 21] rfl rfl rfl rfl hl.1 rfl (Nat.le_of_ble_eq_true rfl) dX12_check_150 ⟨Nat.le_of_ble_eq_true rfl, Nat.le_of_ble_eq_true rfl⟩ [some 0, some 3, none, none, some 1, some 16, some 17, some 18, some 2, some 4, some 5, some 6, some 7, some 8, some 9, some 10, some 11, some 12, some 13, some 14, some 15, some 19, some 20] (of_decide_eq_true rfl) (of_decide_eq_true rfl) rfl rfl rfl (fun H locs hP hD hS => ?_)
              refine lv_istore_n (lv' := [(3, .int o_11.1), (2, .int s_9.1), (0, .ref h0)]) hx hb dX12_check_153 rfl hl (of_decide_eq_true rfl) rfl (fun ls hl => ?_)
              refine lv_iload_n hx hb dX12_check_154 rfl (lv_at hl 0 rfl) ?_
              refine lv_if_ne (tgt := 161) hx hb dX12_check_155 (of_decide_eq_true rfl) (fun c_15 => ?_) (fun c_15 => ?_)
              · have hfn := (if_neg c_15).symm.trans hfn
                refine lv_aload_n hx hb dX12_check_161 rfl (lv_at hl 2 rfl) ?_
                refine lv_iload_n hx hb dX12_check_162 rfl (lv_at hl 1 rfl) ?_
                refine va_put (D := (dC, dI)) (ci := 12) (v := .int s_9.1) (ty := .int) (C := RX12) (T := TX12) (N := 67) hx hb hts zn_X12_check_X12 tyX12 tyX12_ok nmX12 hown hK hP hD hS 0 rfl rfl 58 (of_decide_eq_true rfl) (hts (.fieldLink RX12 189 "ShortEnoughModel" "brokenAt" "I") zw_X12_check_1343) (fun _ h9 => h9) rfl (tyX12_ok 58 (of_decide_eq_true rfl)) rfl rfl (Nat.le_of_ble_eq_true rfl) dX12_check_163 (fun H locs hP hD hS => ?_)
                have hP : va_P (dC, dI) vwCl [(h0, .inr (12, zO a0 (zI (zI (zI (zI b0 1 0) 33 (-1)) 58 s_9.1) 59 (-1)) c0)), zVi (a0 17) k1 2 f1, zVi (a0 2) k2 5 f2, zVi (a0 0) k3 1200 f3, zVi (a0 60) k4 14 s_7.2.1, zVl (a0 61) k5 14 s_7.2.2.1, zVl (a0 62) k6 14 s_7.2.2.2.1, zVl (a0 63) k7 14 s_7.2.2.2.2, zVi (a0 12) k8 2 f8, zVi (a0 27) k9 28 f9, zVi (a0 25) k10 28 f10, zVi (a0 39) k11 14 o_11.2.1, zVi (a0 19) k12 28 f12, zVi (a0 20) k13 28 f13, zVi (a0 21) k14 28 f14, zVl (a0 31) k15 14 o_11.2.2.1, zVl (a0 22) k16 28 f16, zVl (a0 23) k17 28 f17, zVl (a0 32) k18 14 o_11.2.2.2.1, zVi (a0 14) k19 8 f19, zVl (a0 40) k20 14 o_11.2.2.2.2, zVi (a0 15) k21 8 f21, zVi (a0 26) k22 28 f22] H := hP
                have hD := zDW hD hP rfl
                refine lv_aload_n hx hb dX12_check_166 rfl (lv_at hl 2 rfl) ?_
                refine lv_iload_n hx hb dX12_check_167 rfl (lv_at hl 0 rfl) ?_
                refine va_put (D := (dC, dI)) (ci := 12) (v := .int o_11.1) (ty := .int) (C := RX12) (T := TX12) (N := 67) hx hb hts zn_X12_check_X12 tyX12 tyX12_ok nmX12 hown hK hP hD hS 0 rfl rfl 59 (of_decide_eq_true rfl) (hts (.fieldLink RX12 192 "ShortEnoughModel" "brokenWhy" "I") zw_X12_check_1344) (fun _ h9 => h9) rfl (tyX12_ok 59 (of_decide_eq_true rfl)) rfl rfl (Nat.le_of_ble_eq_true rfl) dX12_check_168 (fun H locs hP hD hS => ?_)
                have hP : va_P (dC, dI) vwCl [(h0, .inr (12, zO a0 (zI (zI (zI (zI b0 1 0) 33 (-1)) 58 s_9.1) 59 o_11.1) c0)), zVi (a0 17) k1 2 f1, zVi (a0 2) k2 5 f2, zVi (a0 0) k3 1200 f3, zVi (a0 60) k4 14 s_7.2.1, zVl (a0 61) k5 14 s_7.2.2.1, zVl (a0 62) k6 14 s_7.2.2.2.1, zVl (a0 63) k7 14 s_7.2.2.2.2, zVi (a0 12) k8 2 f8, zVi (a0 27) k9 28 f9, zVi (a0 25) k10 28 f10, zVi (a0 39) k11 14 o_11.2.1, zVi (a0 19) k12 28 f12, zVi (a0 20) k13 28 f13, zVi (a0 21) k14 28 f14, zVl (a0 31) k15 14 o_11.2.2.1, zVl (a0 22) k16 28 f16, zVl (a0 23) k17 28 f17, zVl (a0 32) k18 14 o_11.2.2.2.1, zVi (a0 14) k19 8 f19, zVl (a0 40) k20 14 o_11.2.2.2.2, zVi (a0 15) k21 8 f21, zVi (a0 26) k22 28 f22] H := hP
                have hD := zDW hD hP rfl
                refine lv_aload_n hx hb dX12_check_171 rfl (lv_at hl 2 rfl) ?_
                refine lv_iconst (v := 3) hx hb dX12_check_172 zci_3 ?_
                obtain ⟨o_16, hqo_16, hfn⟩ := zb_s hfn
                refine zcVb (ci := 12) (rest := []) (pc' := 176) (ws' := [(h0, .inr (12, zO a0 (zI (zI (zI (zI b0 1 0) 33 (-1)) 58 s_9.1) 59 o_11.1) c0)), zVi (a0 17) k1 2 f1, zVi (a0 2) k2 5 o_16.2, zVi (a0 0) k3 1200 f3, zVi (a0 60) k4 14 s_7.2.1, zVl (a0 61) k5 14 s_7.2.2.1, zVl (a0 62) k6 14 s_7.2.2.2.1, zVl (a0 63) k7 14 s_7.2.2.2.2, zVi (a0 12) k8 2 f8, zVi (a0 27) k9 28 f9, zVi (a0 25) k10 28 f10, zVi (a0 39) k11 14 o_11.2.1, zVi (a0 19) k12 28 f12, zVi (a0 20) k13 28 f13, zVi (a0 21) k14 28 f14, zVl (a0 31) k15 14 o_11.2.2.1, zVl (a0 22) k16 28 f16, zVl (a0 23) k17 28 f17, zVl (a0 32) k18 14 o_11.2.2.2.1, zVi (a0 14) k19 8 f19, zVl (a0 40) k20 14 o_11.2.2.2.2, zVi (a0 15) k21 8 f21, zVi (a0 26) k22 28 f22]) hP hK hD hS hA ⟨hx, hb, hml, hown, hts⟩ (zf_X12_isRefused l dC dI h0 3 a0 (zI (zI (zI (zI b0 1 0) 33 (-1)) 58 s_9.1) 59 o_11.1) c0 k2 f2 o_16 hqo_16 H.size) (cwV 1 hts gX12_check_X12_isRefused rfl rfl rfl zhd_X12_isRefused ⟨Nat.le_of_ble_eq_true rfl, Nat.le_of_ble_eq_true rfl⟩) [0, 2] rfl (of_decide_eq_true rfl) [1] rfl rfl rfl rfl hl.1 rfl (Nat.le_of_ble_eq_true rfl) dX12_check_173 ⟨Nat.le_of_ble_eq_true rfl, Nat.le_of_ble_eq_true rfl⟩ [some 0, none, some 1] (of_decide_eq_true rfl) (of_decide_eq_true rfl) rfl rfl rfl (fun H locs hw_19n hP hD hS => ?_)
                have ho := Option.some.inj hfn
                subst ho
                exact zrz hx hb hr hw_19n hK hP hD hS hQ ⟨rfl, hw_19n⟩ hlocks dX12_check_176
              have hfn := (if_pos c_15).symm.trans hfn
              refine lv_goto (tgt := 177) hx hb dX12_check_158 (of_decide_eq_true rfl) ?_
              refine lv_iinc (v := (s_9.1 + 1)) (lv' := [(2, .int (s_9.1 + 1)), (3, .int o_11.1), (0, .ref h0)]) hx hb dX12_check_177 hl (k := 1) rfl rfl (of_decide_eq_true rfl) rfl (fun ls hl => ?_)
              refine lv_goto (tgt := 138) hx hb dX12_check_180 (of_decide_eq_true rfl) ?_
              exact ih_9 ((s_9.1 + 1), o_11.2.2.1, o_11.2.2.2.1, o_11.2.1, o_11.2.2.2.2) H locs ls hfn hP hD hS (lv_sub hl [0, 2] rfl)
          exact lp_9 _ (0, f15, f18, f11, f20) H locs ls hfn hP hD hS (lv_sub hl [0, 1] rfl)
        have hfn := (if_neg c_8).symm.trans hfn
        refine lv_aload_n hx hb dX12_check_65 rfl (lv_at hl 1 rfl) ?_
        refine va_get (D := (dC, dI)) (ci := 12) (v := .ref (a0 60)) (C := RX12) (T := TX12) (N := 67) hx hb hts zn_X12_check_X12 hown hK hP 0 rfl rfl 60 (of_decide_eq_true rfl) (hts (.fieldLink RX12 195 "ShortEnoughModel" "saysFormat" "[I") zw_X12_check_1347) (fun _ h9 => h9) rfl dX12_check_66 ?_
        refine lv_iload_n hx hb dX12_check_69 rfl (lv_at hl 0 rfl) ?_
        refine lv_aload_n hx hb dX12_check_70 rfl (lv_at hl 1 rfl) ?_
        refine va_get (D := (dC, dI)) (ci := 12) (v := .ref (a0 0)) (C := RX12) (T := TX12) (N := 67) hx hb hts zn_X12_check_X12 hown hK hP 0 rfl rfl 0 (of_decide_eq_true rfl) (hts (.fieldLink RX12 7 "ShortEnoughModel" "tape" "[I") zw_X12_check_1348) (fun _ h9 => h9) rfl dX12_check_71 ?_
        refine lv_bipush (v := 25) hx hb dX12_check_74 zcb_25 ?_
        refine lv_iload_n hx hb dX12_check_76 rfl (lv_at hl 0 rfl) ?_
        refine lv_imul hx hb dX12_check_77 ?_
        obtain ⟨h_20, hfn⟩ := zg_s hfn
        refine va_iald hx hb hK hP 3 2 rfl rfl h_20 dX12_check_78 ?_
        obtain ⟨h_21, hfn⟩ := zg_s hfn
        refine va_iast hx hb hK hP hD hS 4 3 rfl rfl h_21 dX12_check_79 (fun H locs hP hD hS => ?_)
        obtain ⟨g_22, eg_22⟩ : ∃ g : Nat → Int32, g = (upd s_7.2.1 s_7.1.toNatClampNeg (f3 (25 * s_7.1).toNatClampNeg)) := ⟨_, rfl⟩
        have hfn := zn_s hfn eg_22
        have hP : va_P (dC, dI) vwCl [(h0, .inr (12, zO a0 (zI (zI (zI (zI b0 1 0) 33 (-1)) 58 (-1)) 59 (-1)) c0)), zVi (a0 17) k1 2 f1, zVi (a0 2) k2 5 f2, zVi (a0 0) k3 1200 f3, zVi (a0 60) k4 14 g_22, zVl (a0 61) k5 14 s_7.2.2.1, zVl (a0 62) k6 14 s_7.2.2.2.1, zVl (a0 63) k7 14 s_7.2.2.2.2, zVi (a0 12) k8 2 f8, zVi (a0 27) k9 28 f9, zVi (a0 25) k10 28 f10, zVi (a0 39) k11 14 f11, zVi (a0 19) k12 28 f12, zVi (a0 20) k13 28 f13, zVi (a0 21) k14 28 f14, zVl (a0 31) k15 14 f15, zVl (a0 22) k16 28 f16, zVl (a0 23) k17 28 f17, zVl (a0 32) k18 14 f18, zVi (a0 14) k19 8 f19, zVl (a0 40) k20 14 f20, zVi (a0 15) k21 8 f21, zVi (a0 26) k22 28 f22] H := by rw [eg_22]; exact hP
        have hD : va_D A [(h0, .inr (12, zO a0 (zI (zI (zI (zI b0 1 0) 33 (-1)) 58 (-1)) 59 (-1)) c0)), zVi (a0 17) k1 2 f1, zVi (a0 2) k2 5 f2, zVi (a0 0) k3 1200 f3, zVi (a0 60) k4 14 g_22, zVl (a0 61) k5 14 s_7.2.2.1, zVl (a0 62) k6 14 s_7.2.2.2.1, zVl (a0 63) k7 14 s_7.2.2.2.2, zVi (a0 12) k8 2 f8, zVi (a0 27) k9 28 f9, zVi (a0 25) k10 28 f10, zVi (a0 39) k11 14 f11, zVi (a0 19) k12 28 f12, zVi (a0 20) k13 28 f13, zVi (a0 21) k14 28 f14, zVl (a0 31) k15 14 f15, zVl (a0 22) k16 28 f16, zVl (a0 23) k17 28 f17, zVl (a0 32) k18 14 f18, zVi (a0 14) k19 8 f19, zVl (a0 40) k20 14 f20, zVi (a0 15) k21 8 f21, zVi (a0 26) k22 28 f22] := by rw [eg_22]; exact hD
        refine lv_aload_n hx hb dX12_check_80 rfl (lv_at hl 1 rfl) ?_
        refine va_get (D := (dC, dI)) (ci := 12) (v := .ref (a0 61)) (C := RX12) (T := TX12) (N := 67) hx hb hts zn_X12_check_X12 hown hK hP 0 rfl rfl 61 (of_decide_eq_true rfl) (hts (.fieldLink RX12 198 "ShortEnoughModel" "saysLeast" "[J") zw_X12_check_1349) (fun _ h9 => h9) rfl dX12_check_81 ?_
        refine lv_iload_n hx hb dX12_check_84 rfl (lv_at hl 0 rfl) ?_
        refine lv_aload_n hx hb dX12_check_85 rfl (lv_at hl 1 rfl) ?_
        refine lv_bipush (v := 25) hx hb dX12_check_86 zcb_25 ?_
        refine lv_iload_n hx hb dX12_check_88 rfl (lv_at hl 0 rfl) ?_
        refine lv_imul hx hb dX12_check_89 ?_
        refine lv_iconst (v := 1) hx hb dX12_check_90 zci_1 ?_
        refine lv_iadd hx hb dX12_check_91 ?_
        obtain ⟨o_23, hqo_23, hfn⟩ := zb_s hfn
        refine zcVl (ci := 12) (rest := [.int s_7.1, .ref (a0 61)]) (pc' := 95) (ws' := [(h0, .inr (12, zO a0 (zI (zI (zI (zI b0 1 0) 33 (-1)) 58 (-1)) 59 (-1)) c0)), zVi (a0 17) k1 2 f1, zVi (a0 2) k2 5 f2, zVi (a0 0) k3 1200 f3, zVi (a0 60) k4 14 g_22, zVl (a0 61) k5 14 s_7.2.2.1, zVl (a0 62) k6 14 s_7.2.2.2.1, zVl (a0 63) k7 14 s_7.2.2.2.2, zVi (a0 12) k8 2 f8, zVi (a0 27) k9 28 f9, zVi (a0 25) k10 28 f10, zVi (a0 39) k11 14 f11, zVi (a0 19) k12 28 f12, zVi (a0 20) k13 28 f13, zVi (a0 21) k14 28 f14, zVl (a0 31) k15 14 f15, zVl (a0 22) k16 28 f16, zVl (a0 23) k17 28 f17, zVl (a0 32) k18 14 f18, zVi (a0 14) k19 8 f19, zVl (a0 40) k20 14 f20, zVi (a0 15) k21 8 f21, zVi (a0 26) k22 28 f22]) hP hK hD hS hA ⟨hx, hb, hml, hown, hts⟩ (zf_X12_readsLong l dC dI h0 ((25 * s_7.1) + 1) a0 (zI (zI (zI (zI b0 1 0) 33 (-1)) 58 (-1)) 59 (-1)) c0 k3 f3 o_23 hqo_23 H.size) (cwV 1 hts gX12_check_X12_readsLong rfl rfl rfl zhd_X12_readsLong ⟨Nat.le_of_ble_eq_true rfl, Nat.le_of_ble_eq_true rfl⟩) [0, 3] rfl (of_decide_eq_true rfl) [2] rfl rfl rfl rfl hl.1 rfl (Nat.le_of_ble_eq_true rfl) dX12_check_92 ⟨Nat.le_of_ble_eq_true rfl, Nat.le_of_ble_eq_true rfl⟩ [some 0, none, none, some 1] (of_decide_eq_true rfl) (of_decide_eq_true rfl) rfl rfl rfl (fun H locs hP hD hS => ?_)
        refine va_last hx hb hK hP hD hS 5 4 rfl rfl h_21 dX12_check_95 (fun H locs hP hD hS => ?_)
        have hP : va_P (dC, dI) vwCl [(h0, .inr (12, zO a0 (zI (zI (zI (zI b0 1 0) 33 (-1)) 58 (-1)) 59 (-1)) c0)), zVi (a0 17) k1 2 f1, zVi (a0 2) k2 5 f2, zVi (a0 0) k3 1200 f3, zVi (a0 60) k4 14 g_22, zVl (a0 61) k5 14 (vp_updL s_7.2.2.1 s_7.1.toNatClampNeg o_23), zVl (a0 62) k6 14 s_7.2.2.2.1, zVl (a0 63) k7 14 s_7.2.2.2.2, zVi (a0 12) k8 2 f8, zVi (a0 27) k9 28 f9, zVi (a0 25) k10 28 f10, zVi (a0 39) k11 14 f11, zVi (a0 19) k12 28 f12, zVi (a0 20) k13 28 f13, zVi (a0 21) k14 28 f14, zVl (a0 31) k15 14 f15, zVl (a0 22) k16 28 f16, zVl (a0 23) k17 28 f17, zVl (a0 32) k18 14 f18, zVi (a0 14) k19 8 f19, zVl (a0 40) k20 14 f20, zVi (a0 15) k21 8 f21, zVi (a0 26) k22 28 f22] H := hP
        have hD := zDW hD hP rfl
        refine lv_aload_n hx hb dX12_check_96 rfl (lv_at hl 1 rfl) ?_
        refine va_get (D := (dC, dI)) (ci := 12) (v := .ref (a0 62)) (C := RX12) (T := TX12) (N := 67) hx hb hts zn_X12_check_X12 hown hK hP 0 rfl rfl 62 (of_decide_eq_true rfl) (hts (.fieldLink RX12 201 "ShortEnoughModel" "saysGreatest" "[J") zw_X12_check_1350) (fun _ h9 => h9) rfl dX12_check_97 ?_
        refine lv_iload_n hx hb dX12_check_100 rfl (lv_at hl 0 rfl) ?_
        refine lv_aload_n hx hb dX12_check_101 rfl (lv_at hl 1 rfl) ?_
        refine lv_bipush (v := 25) hx hb dX12_check_102 zcb_25 ?_
        refine lv_iload_n hx hb dX12_check_104 rfl (lv_at hl 0 rfl) ?_
        refine lv_imul hx hb dX12_check_105 ?_
        refine lv_bipush (v := 9) hx hb dX12_check_106 zcb_9 ?_
        refine lv_iadd hx hb dX12_check_108 ?_
        obtain ⟨o_27, hqo_27, hfn⟩ := zb_s hfn
        refine zcVl (ci := 12) (rest := [.int s_7.1, .ref (a0 62)]) (pc' := 112) (ws' := [(h0, .inr (12, zO a0 (zI (zI (zI (zI b0 1 0) 33 (-1)) 58 (-1)) 59 (-1)) c0)), zVi (a0 17) k1 2 f1, zVi (a0 2) k2 5 f2, zVi (a0 0) k3 1200 f3, zVi (a0 60) k4 14 g_22, zVl (a0 61) k5 14 (vp_updL s_7.2.2.1 s_7.1.toNatClampNeg o_23), zVl (a0 62) k6 14 s_7.2.2.2.1, zVl (a0 63) k7 14 s_7.2.2.2.2, zVi (a0 12) k8 2 f8, zVi (a0 27) k9 28 f9, zVi (a0 25) k10 28 f10, zVi (a0 39) k11 14 f11, zVi (a0 19) k12 28 f12, zVi (a0 20) k13 28 f13, zVi (a0 21) k14 28 f14, zVl (a0 31) k15 14 f15, zVl (a0 22) k16 28 f16, zVl (a0 23) k17 28 f17, zVl (a0 32) k18 14 f18, zVi (a0 14) k19 8 f19, zVl (a0 40) k20 14 f20, zVi (a0 15) k21 8 f21, zVi (a0 26) k22 28 f22]) hP hK hD hS hA ⟨hx, hb, hml, hown, hts⟩ (zf_X12_readsLong l dC dI h0 ((25 * s_7.1) + 9) a0 (zI (zI (zI (zI b0 1 0) 33 (-1)) 58 (-1)) 59 (-1)) c0 k3 f3 o_27 hqo_27 H.size) (cwV 1 hts gX12_check_X12_readsLong rfl rfl rfl zhd_X12_readsLong ⟨Nat.le_of_ble_eq_true rfl, Nat.le_of_ble_eq_true rfl⟩) [0, 3] rfl (of_decide_eq_true rfl) [2] rfl rfl rfl rfl hl.1 rfl (Nat.le_of_ble_eq_true rfl) dX12_check_109 ⟨Nat.le_of_ble_eq_true rfl, Nat.le_of_ble_eq_true rfl⟩ [some 0, none, none, some 1] (of_decide_eq_true rfl) (of_decide_eq_true rfl) rfl rfl rfl (fun H locs hP hD hS => ?_)
        refine va_last hx hb hK hP hD hS 6 5 rfl rfl h_21 dX12_check_112 (fun H locs hP hD hS => ?_)
        have hP : va_P (dC, dI) vwCl [(h0, .inr (12, zO a0 (zI (zI (zI (zI b0 1 0) 33 (-1)) 58 (-1)) 59 (-1)) c0)), zVi (a0 17) k1 2 f1, zVi (a0 2) k2 5 f2, zVi (a0 0) k3 1200 f3, zVi (a0 60) k4 14 g_22, zVl (a0 61) k5 14 (vp_updL s_7.2.2.1 s_7.1.toNatClampNeg o_23), zVl (a0 62) k6 14 (vp_updL s_7.2.2.2.1 s_7.1.toNatClampNeg o_27), zVl (a0 63) k7 14 s_7.2.2.2.2, zVi (a0 12) k8 2 f8, zVi (a0 27) k9 28 f9, zVi (a0 25) k10 28 f10, zVi (a0 39) k11 14 f11, zVi (a0 19) k12 28 f12, zVi (a0 20) k13 28 f13, zVi (a0 21) k14 28 f14, zVl (a0 31) k15 14 f15, zVl (a0 22) k16 28 f16, zVl (a0 23) k17 28 f17, zVl (a0 32) k18 14 f18, zVi (a0 14) k19 8 f19, zVl (a0 40) k20 14 f20, zVi (a0 15) k21 8 f21, zVi (a0 26) k22 28 f22] H := hP
        have hD := zDW hD hP rfl
        refine lv_aload_n hx hb dX12_check_113 rfl (lv_at hl 1 rfl) ?_
        refine va_get (D := (dC, dI)) (ci := 12) (v := .ref (a0 63)) (C := RX12) (T := TX12) (N := 67) hx hb hts zn_X12_check_X12 hown hK hP 0 rfl rfl 63 (of_decide_eq_true rfl) (hts (.fieldLink RX12 204 "ShortEnoughModel" "saysError" "[J") zw_X12_check_1351) (fun _ h9 => h9) rfl dX12_check_114 ?_
        refine lv_iload_n hx hb dX12_check_117 rfl (lv_at hl 0 rfl) ?_
        refine lv_aload_n hx hb dX12_check_118 rfl (lv_at hl 1 rfl) ?_
        refine lv_bipush (v := 25) hx hb dX12_check_119 zcb_25 ?_
        refine lv_iload_n hx hb dX12_check_121 rfl (lv_at hl 0 rfl) ?_
        refine lv_imul hx hb dX12_check_122 ?_
        refine lv_bipush (v := 17) hx hb dX12_check_123 zcb_17 ?_
        refine lv_iadd hx hb dX12_check_125 ?_
        obtain ⟨o_31, hqo_31, hfn⟩ := zb_s hfn
        refine zcVl (ci := 12) (rest := [.int s_7.1, .ref (a0 63)]) (pc' := 129) (ws' := [(h0, .inr (12, zO a0 (zI (zI (zI (zI b0 1 0) 33 (-1)) 58 (-1)) 59 (-1)) c0)), zVi (a0 17) k1 2 f1, zVi (a0 2) k2 5 f2, zVi (a0 0) k3 1200 f3, zVi (a0 60) k4 14 g_22, zVl (a0 61) k5 14 (vp_updL s_7.2.2.1 s_7.1.toNatClampNeg o_23), zVl (a0 62) k6 14 (vp_updL s_7.2.2.2.1 s_7.1.toNatClampNeg o_27), zVl (a0 63) k7 14 s_7.2.2.2.2, zVi (a0 12) k8 2 f8, zVi (a0 27) k9 28 f9, zVi (a0 25) k10 28 f10, zVi (a0 39) k11 14 f11, zVi (a0 19) k12 28 f12, zVi (a0 20) k13 28 f13, zVi (a0 21) k14 28 f14, zVl (a0 31) k15 14 f15, zVl (a0 22) k16 28 f16, zVl (a0 23) k17 28 f17, zVl (a0 32) k18 14 f18, zVi (a0 14) k19 8 f19, zVl (a0 40) k20 14 f20, zVi (a0 15) k21 8 f21, zVi (a0 26) k22 28 f22]) hP hK hD hS hA ⟨hx, hb, hml, hown, hts⟩ (zf_X12_readsLong l dC dI h0 ((25 * s_7.1) + 17) a0 (zI (zI (zI (zI b0 1 0) 33 (-1)) 58 (-1)) 59 (-1)) c0 k3 f3 o_31 hqo_31 H.size) (cwV 1 hts gX12_check_X12_readsLong rfl rfl rfl zhd_X12_readsLong ⟨Nat.le_of_ble_eq_true rfl, Nat.le_of_ble_eq_true rfl⟩) [0, 3] rfl (of_decide_eq_true rfl) [2] rfl rfl rfl rfl hl.1 rfl (Nat.le_of_ble_eq_true rfl) dX12_check_126 ⟨Nat.le_of_ble_eq_true rfl, Nat.le_of_ble_eq_true rfl⟩ [some 0, none, none, some 1] (of_decide_eq_true rfl) (of_decide_eq_true rfl) rfl rfl rfl (fun H locs hP hD hS => ?_)
        refine va_last hx hb hK hP hD hS 7 6 rfl rfl h_21 dX12_check_129 (fun H locs hP hD hS => ?_)
        have hP : va_P (dC, dI) vwCl [(h0, .inr (12, zO a0 (zI (zI (zI (zI b0 1 0) 33 (-1)) 58 (-1)) 59 (-1)) c0)), zVi (a0 17) k1 2 f1, zVi (a0 2) k2 5 f2, zVi (a0 0) k3 1200 f3, zVi (a0 60) k4 14 g_22, zVl (a0 61) k5 14 (vp_updL s_7.2.2.1 s_7.1.toNatClampNeg o_23), zVl (a0 62) k6 14 (vp_updL s_7.2.2.2.1 s_7.1.toNatClampNeg o_27), zVl (a0 63) k7 14 (vp_updL s_7.2.2.2.2 s_7.1.toNatClampNeg o_31), zVi (a0 12) k8 2 f8, zVi (a0 27) k9 28 f9, zVi (a0 25) k10 28 f10, zVi (a0 39) k11 14 f11, zVi (a0 19) k12 28 f12, zVi (a0 20) k13 28 f13, zVi (a0 21) k14 28 f14, zVl (a0 31) k15 14 f15, zVl (a0 22) k16 28 f16, zVl (a0 23) k17 28 f17, zVl (a0 32) k18 14 f18, zVi (a0 14) k19 8 f19, zVl (a0 40) k20 14 f20, zVi (a0 15) k21 8 f21, zVi (a0 26) k22 28 f22] H := hP
        have hD := zDW hD hP rfl
        refine lv_iinc (v := (s_7.1 + 1)) (lv' := [(2, .int (s_7.1 + 1)), (0, .ref h0)]) hx hb dX12_check_130 hl (k := 0) rfl rfl (of_decide_eq_true rfl) rfl (fun ls hl => ?_)
        refine lv_goto (tgt := 55) hx hb dX12_check_133 (of_decide_eq_true rfl) ?_
        exact ih_7 ((s_7.1 + 1), g_22, (vp_updL s_7.2.2.1 s_7.1.toNatClampNeg o_23), (vp_updL s_7.2.2.2.1 s_7.1.toNatClampNeg o_27), (vp_updL s_7.2.2.2.2 s_7.1.toNatClampNeg o_31)) H locs ls hfn hP hD hS (lv_sub hl [0, 1] rfl)
    exact lp_7 _ (0, f4, f5, f6, f7) H locs ls hfn hP hD hS (lv_sub hl [0, 2] rfl)
  have hfn := (if_neg c_6).symm.trans hfn
  refine lv_aload_n hx hb dX12_check_42 rfl (lv_at hl 1 rfl) ?_
  refine lv_iconst (v := 3) hx hb dX12_check_43 zci_3 ?_
  obtain ⟨o_35, hqo_35, hfn⟩ := zb_s hfn
  refine zcVb (ci := 12) (rest := []) (pc' := 47) (ws' := [(h0, .inr (12, zO a0 (zI (zI (zI b0 1 0) 58 (-1)) 59 (-1)) c0)), zVi (a0 17) k1 2 f1, zVi (a0 2) k2 5 o_35.2, zVi (a0 0) k3 1200 f3, zVi (a0 60) k4 14 f4, zVl (a0 61) k5 14 f5, zVl (a0 62) k6 14 f6, zVl (a0 63) k7 14 f7, zVi (a0 12) k8 2 f8, zVi (a0 27) k9 28 f9, zVi (a0 25) k10 28 f10, zVi (a0 39) k11 14 f11, zVi (a0 19) k12 28 f12, zVi (a0 20) k13 28 f13, zVi (a0 21) k14 28 f14, zVl (a0 31) k15 14 f15, zVl (a0 22) k16 28 f16, zVl (a0 23) k17 28 f17, zVl (a0 32) k18 14 f18, zVi (a0 14) k19 8 f19, zVl (a0 40) k20 14 f20, zVi (a0 15) k21 8 f21, zVi (a0 26) k22 28 f22]) hP hK hD hS hA ⟨hx, hb, hml, hown, hts⟩ (zf_X12_isRefused l dC dI h0 3 a0 (zI (zI (zI b0 1 0) 58 (-1)) 59 (-1)) c0 k2 f2 o_35 hqo_35 H.size) (cwV 1 hts gX12_check_X12_isRefused rfl rfl rfl zhd_X12_isRefused ⟨Nat.le_of_ble_eq_true rfl, Nat.le_of_ble_eq_true rfl⟩) [0, 2] rfl (of_decide_eq_true rfl) [1] rfl rfl rfl rfl hl.1 rfl (Nat.le_of_ble_eq_true rfl) dX12_check_44 ⟨Nat.le_of_ble_eq_true rfl, Nat.le_of_ble_eq_true rfl⟩ [some 0, none, some 1] (of_decide_eq_true rfl) (of_decide_eq_true rfl) rfl rfl rfl (fun H locs hw_38n hP hD hS => ?_)
  have ho := Option.some.inj hfn
  subst ho
  exact zrz hx hb hr hw_38n hK hP hD hS hQ ⟨rfl, hw_38n⟩ hlocks dX12_check_47
theorem zn_X12_broken_X12 : ∀ w ∈ wsX120, w ∈ wsX12_broken := fun _ h => List.mem_cons_of_mem _ (List.mem_append_right _ h)
theorem zw_X12_broken_1353 : Cond.fieldLink RX12 192 "ShortEnoughModel" "brokenWhy" "I" ∈ wsX12_broken := List.mem_of_getElem? (i := 2) (by decide +kernel)
theorem zw_X12_broken_1354 : Cond.fieldLink RX12 189 "ShortEnoughModel" "brokenAt" "I" ∈ wsX12_broken := List.mem_of_getElem? (i := 1) (by decide +kernel)
set_option maxHeartbeats 4000000 in
set_option maxRecDepth 100000 in
theorem zf_X12_broken (l : Launch) (dC : Nat → ClassId) (dI : Nat → Nat → Nat) (h0 : Nat) (p1 : Int32) (a0 : Nat → Nat) (b0 : Nat → Int32) (c0 : Nat → Int64) (o : Int32) (hfn : fn_X12_broken p1 (b0 58) (b0 59) = some o) (sz : Nat) : zMi l yX12_broken wsX12_broken ({ frames := 0, cells := 0, slots := 0, locals := 0 }) (dC, dI) vwCl [.ref h0, .int p1] [(h0, .inr (12, zO a0 b0 c0))] [] (fun r _ => r = o) [(h0, .inr (12, zO a0 b0 c0))] [] sz := by
  refine zgoi (cc := cX12_broken) (maxL := 2) (ret := (some .int)) (C0 := RX12) (lv0 := [(0, .ref h0), (1, .int p1)]) zpl_X12 rfl rfl rfl (Nat.le_of_ble_eq_true rfl) ?_
  intro p e s m below meth c A ls Q hx hb hr hts hown hlocks hml hP hK hD hA hS hl hQ
  unfold fn_X12_broken at hfn
  refine lv_iload_n hx hb dX12_broken_0 rfl (lv_at hl 1 rfl) ?_
  refine lv_if_ne (tgt := 11) hx hb dX12_broken_1 (of_decide_eq_true rfl) (fun c_1 => ?_) (fun c_1 => ?_)
  · have hfn := (if_neg c_1).symm.trans hfn
    refine lv_iload_n hx hb dX12_broken_11 rfl (lv_at hl 1 rfl) ?_
    refine lv_iconst (v := 1) hx hb dX12_broken_12 zci_1 ?_
    refine lv_icmp_ne (tgt := 23) hx hb dX12_broken_13 (of_decide_eq_true rfl) (fun c_2 => ?_) (fun c_2 => ?_)
    · have hfn := (if_neg c_2).symm.trans hfn
      refine lv_iconst (v := (-1)) hx hb dX12_broken_23 zci_m1 ?_
      have ho := Option.some.inj hfn
      subst ho
      exact zri hx hb hr hK hP hD hS hQ rfl hlocks dX12_broken_24
    have hfn := (if_pos c_2).symm.trans hfn
    refine lv_aload_n hx hb dX12_broken_16 rfl (lv_at hl 0 rfl) ?_
    refine va_get (D := (dC, dI)) (ci := 12) (v := .int (b0 59)) (C := RX12) (T := TX12) (N := 67) hx hb hts zn_X12_broken_X12 hown hK hP 0 rfl rfl 59 (of_decide_eq_true rfl) (hts (.fieldLink RX12 192 "ShortEnoughModel" "brokenWhy" "I") zw_X12_broken_1353) (fun _ h9 => h9) rfl dX12_broken_17 ?_
    refine lv_goto (tgt := 24) hx hb dX12_broken_20 (of_decide_eq_true rfl) ?_
    have ho := Option.some.inj hfn
    subst ho
    exact zri hx hb hr hK hP hD hS hQ rfl hlocks dX12_broken_24
  have hfn := (if_pos c_1).symm.trans hfn
  refine lv_aload_n hx hb dX12_broken_4 rfl (lv_at hl 0 rfl) ?_
  refine va_get (D := (dC, dI)) (ci := 12) (v := .int (b0 58)) (C := RX12) (T := TX12) (N := 67) hx hb hts zn_X12_broken_X12 hown hK hP 0 rfl rfl 58 (of_decide_eq_true rfl) (hts (.fieldLink RX12 189 "ShortEnoughModel" "brokenAt" "I") zw_X12_broken_1354) (fun _ h9 => h9) rfl dX12_broken_5 ?_
  refine lv_goto (tgt := 24) hx hb dX12_broken_8 (of_decide_eq_true rfl) ?_
  have ho := Option.some.inj hfn
  subst ho
  exact zri hx hb hr hK hP hD hS hQ rfl hlocks dX12_broken_24
theorem zw_X12_draw_1355 : Cond.constantLong RX12 527 (1103515245) ∈ wsX12_draw := List.mem_of_getElem? (i := 1) (by decide +kernel)
theorem zn_X12_draw_X12 : ∀ w ∈ wsX120, w ∈ wsX12_draw := fun _ h => List.mem_cons_of_mem _ (List.mem_append_right _ h)
theorem zw_X12_draw_1357 : Cond.fieldLink RX12 207 "ShortEnoughModel" "seedNow" "I" ∈ wsX12_draw := List.mem_of_getElem? (i := 2) (by decide +kernel)
theorem zw_X12_draw_1358 : Cond.constantLong RX12 529 (12345) ∈ wsX12_draw := List.mem_of_getElem? (i := 3) (by decide +kernel)
theorem zw_X12_draw_1359 : Cond.constantLong RX12 531 (2147483648) ∈ wsX12_draw := List.mem_of_getElem? (i := 4) (by decide +kernel)
set_option maxHeartbeats 4000000 in
set_option maxRecDepth 100000 in
theorem zf_X12_draw (l : Launch) (dC : Nat → ClassId) (dI : Nat → Nat → Nat) (h0 : Nat) (j1 : Int64) (a0 : Nat → Nat) (b0 : Nat → Int32) (c0 : Nat → Int64) (o : Int64 × Int32) (hfn : fn_X12_draw j1 (b0 64) = some o) (sz : Nat) : zMl l yX12_draw wsX12_draw ({ frames := 0, cells := 0, slots := 0, locals := 0 }) (dC, dI) vwCl [.ref h0, .long j1] [(h0, .inr (12, zO a0 b0 c0))] [] (fun r _ => r = o.1) [(h0, .inr (12, zO a0 (zI b0 64 o.2) c0))] [] sz := by
  refine zgol (cc := cX12_draw) (maxL := 5) (ret := (some .long)) (C0 := RX12) (lv0 := [(0, .ref h0), (1, .long j1)]) zpl_X12 rfl rfl rfl (Nat.le_of_ble_eq_true rfl) ?_
  intro p e s m below meth c A ls Q hx hb hr hts hown hlocks hml hP hK hD hA hS hl hQ
  unfold fn_X12_draw at hfn
  refine lv_ldc2 (v := 1103515245) hx hb hown (hts (.constantLong RX12 527 (1103515245)) zw_X12_draw_1355) dX12_draw_0 ?_
  refine lv_aload_n hx hb dX12_draw_3 rfl (lv_at hl 0 rfl) ?_
  refine va_get (D := (dC, dI)) (ci := 12) (v := .int (b0 64)) (C := RX12) (T := TX12) (N := 67) hx hb hts zn_X12_draw_X12 hown hK hP 0 rfl rfl 64 (of_decide_eq_true rfl) (hts (.fieldLink RX12 207 "ShortEnoughModel" "seedNow" "I") zw_X12_draw_1357) (fun _ h9 => h9) rfl dX12_draw_4 ?_
  refine lv_i2l (v := (b0 64).toInt64) hx hb dX12_draw_7 rfl ?_
  refine lv_lmul hx hb dX12_draw_8 ?_
  refine lv_ldc2 (v := 12345) hx hb hown (hts (.constantLong RX12 529 (12345)) zw_X12_draw_1358) dX12_draw_9 ?_
  refine lv_ladd hx hb dX12_draw_12 ?_
  refine lv_ldc2 (v := 2147483648) hx hb hown (hts (.constantLong RX12 531 (2147483648)) zw_X12_draw_1359) dX12_draw_13 ?_
  refine lv_lrem hx hb dX12_draw_16 (by decide +kernel) ?_
  refine lv_topl (fun x_1 ex_1 => ?_)
  have hfn := zn_s hfn ex_1
  refine lv_lstore_n (lv' := [(3, .long x_1), (0, .ref h0), (1, .long j1)]) hx hb dX12_draw_17 rfl hl (of_decide_eq_true rfl) rfl (fun ls hl => ?_)
  refine lv_aload_n hx hb dX12_draw_18 rfl (lv_at hl 1 rfl) ?_
  refine lv_lload_n hx hb dX12_draw_19 rfl (lv_at hl 0 rfl) ?_
  refine lv_l2i (v := x_1.toInt32) hx hb dX12_draw_20 rfl ?_
  refine va_put (D := (dC, dI)) (ci := 12) (v := .int x_1.toInt32) (ty := .int) (C := RX12) (T := TX12) (N := 67) hx hb hts zn_X12_draw_X12 tyX12 tyX12_ok nmX12 hown hK hP hD hS 0 rfl rfl 64 (of_decide_eq_true rfl) (hts (.fieldLink RX12 207 "ShortEnoughModel" "seedNow" "I") zw_X12_draw_1357) (fun _ h9 => h9) rfl (tyX12_ok 64 (of_decide_eq_true rfl)) rfl rfl (Nat.le_of_ble_eq_true rfl) dX12_draw_21 (fun H locs hP hD hS => ?_)
  have hP : va_P (dC, dI) vwCl [(h0, .inr (12, zO a0 (zI b0 64 x_1.toInt32) c0))] H := hP
  have hD := zDW hD hP rfl
  refine lv_lload_n hx hb dX12_draw_24 rfl (lv_at hl 0 rfl) ?_
  refine lv_lload_n hx hb dX12_draw_25 rfl (lv_at hl 2 rfl) ?_
  refine lv_lmul hx hb dX12_draw_26 ?_
  refine lv_ldc2 (v := 2147483648) hx hb hown (hts (.constantLong RX12 531 (2147483648)) zw_X12_draw_1359) dX12_draw_27 ?_
  refine lv_ldiv hx hb dX12_draw_30 (by decide +kernel) ?_
  have ho := Option.some.inj hfn
  subst ho
  exact zrl hx hb hr hK hP hD hS hQ rfl hlocks dX12_draw_31
theorem zn_X12_exactOf_X12 : ∀ w ∈ wsX120, w ∈ wsX12_exactOf := fun _ h => List.mem_cons_of_mem _ (List.mem_append_right _ h)
theorem zw_X12_exactOf_1361 : Cond.fieldLink RX12 71 "ShortEnoughModel" "first" "[I" ∈ wsX12_exactOf := List.mem_of_getElem? (i := 2) (by decide +kernel)
theorem zw_X12_exactOf_1362 : Cond.fieldLink RX12 74 "ShortEnoughModel" "second" "[I" ∈ wsX12_exactOf := List.mem_of_getElem? (i := 1) (by decide +kernel)
theorem zw_X12_exactOf_1363 : Cond.fieldLink RX12 210 "ShortEnoughModel" "exact" "[J" ∈ wsX12_exactOf := List.mem_of_getElem? (i := 5) (by decide +kernel)
theorem zw_X12_exactOf_1364 : Cond.fieldLink RX12 77 "ShortEnoughModel" "firstV" "[J" ∈ wsX12_exactOf := List.mem_of_getElem? (i := 4) (by decide +kernel)
theorem zw_X12_exactOf_1365 : Cond.fieldLink RX12 81 "ShortEnoughModel" "secondV" "[J" ∈ wsX12_exactOf := List.mem_of_getElem? (i := 3) (by decide +kernel)
set_option maxHeartbeats 4000000 in
set_option maxRecDepth 100000 in
theorem zf_X12_exactOf (l : Launch) (dC : Nat → ClassId) (dI : Nat → Nat → Nat) (h0 : Nat) (p1 : Int32) (p2 : Int32) (a0 : Nat → Nat) (b0 : Nat → Int32) (c0 : Nat → Int64) (k1 : Nat) (f1 : Nat → Int32) (k2 : Nat) (f2 : Nat → Int32) (k3 : Nat) (f3 : Nat → Int64) (k4 : Nat) (f4 : Nat → Int64) (k5 : Nat) (f5 : Nat → Int64) (o : Int64) (hfn : fn_X12_exactOf p1 p2 f1 f2 f3 f4 f5 = some o) (sz : Nat) : zMl l yX12_exactOf wsX12_exactOf ({ frames := 0, cells := 0, slots := 0, locals := 0 }) (dC, dI) vwCl [.ref h0, .int p1, .int p2] [(h0, .inr (12, zO a0 b0 c0)), zVi (a0 20) k1 28 f1, zVi (a0 21) k2 28 f2, zVl (a0 65) k3 14 f3, zVl (a0 22) k4 28 f4, zVl (a0 23) k5 28 f5] [(k1, .int), (k2, .int), (k3, .long), (k4, .long), (k5, .long)] (fun r _ => r = o) [(h0, .inr (12, zO a0 b0 c0)), zVi (a0 20) k1 28 f1, zVi (a0 21) k2 28 f2, zVl (a0 65) k3 14 f3, zVl (a0 22) k4 28 f4, zVl (a0 23) k5 28 f5] [(k1, .int), (k2, .int), (k3, .long), (k4, .long), (k5, .long)] sz := by
  refine zgol (cc := cX12_exactOf) (maxL := 4) (ret := (some .long)) (C0 := RX12) (lv0 := [(0, .ref h0), (1, .int p1), (2, .int p2)]) zpl_X12 rfl rfl rfl (Nat.le_of_ble_eq_true rfl) ?_
  intro p e s m below meth c A ls Q hx hb hr hts hown hlocks hml hP hK hD hA hS hl hQ
  unfold fn_X12_exactOf at hfn
  refine lv_iload_n hx hb dX12_exactOf_0 rfl (lv_at hl 2 rfl) ?_
  obtain ⟨j_1, ej_1, hfn⟩ := zj_g hfn
  have jp_1 : ∀ (s_1 : Int32) (H : Heap) (locs : List Loc) (ls : Array Slot), j_1 s_1 = some o → va_P (dC, dI) vwCl [(h0, .inr (12, zO a0 b0 c0)), zVi (a0 20) k1 28 f1, zVi (a0 21) k2 28 f2, zVl (a0 65) k3 14 f3, zVl (a0 22) k4 28 f4, zVl (a0 23) k5 28 f5] H → va_D A [(h0, .inr (12, zO a0 b0 c0)), zVi (a0 20) k1 28 f1, zVi (a0 21) k2 28 f2, zVl (a0 65) k3 14 f3, zVl (a0 22) k4 28 f4, zVl (a0 23) k5 28 f5] → va_S A s.heap H locs → lv_has ls 4 [(0, .ref h0), (1, .int p1), (2, .int p2)] → W p l e (headSpec wsX12_exactOf ({ frames := 0, cells := 0, slots := 0, locals := 0 })).room s m ([.ref h0, .int p1, .int p2] : List Value).toArray below meth c H locs 0 0 Q (F0 m 19 ls [.int s_1]) := by
    intro s_1 H locs ls hfn hP hD hS hl
    have hfn := zj_s ej_1 hfn
    refine lv_istore_n (lv' := [(3, .int s_1), (0, .ref h0), (1, .int p1), (2, .int p2)]) hx hb dX12_exactOf_19 rfl hl (of_decide_eq_true rfl) rfl (fun ls hl => ?_)
    refine lv_iload_n hx hb dX12_exactOf_20 rfl (lv_at hl 0 rfl) ?_
    refine lv_iconst (v := (-1)) hx hb dX12_exactOf_21 zci_m1 ?_
    refine lv_icmp_ne (tgt := 47) hx hb dX12_exactOf_22 (of_decide_eq_true rfl) (fun c_2 => ?_) (fun c_2 => ?_)
    · have hfn := (if_neg c_2).symm.trans hfn
      refine lv_aload_n hx hb dX12_exactOf_47 rfl (lv_at hl 1 rfl) ?_
      refine va_get (D := (dC, dI)) (ci := 12) (v := .ref (a0 65)) (C := RX12) (T := TX12) (N := 67) hx hb hts zn_X12_exactOf_X12 hown hK hP 0 rfl rfl 65 (of_decide_eq_true rfl) (hts (.fieldLink RX12 210 "ShortEnoughModel" "exact" "[J") zw_X12_exactOf_1363) (fun _ h9 => h9) rfl dX12_exactOf_48 ?_
      refine lv_iload_n hx hb dX12_exactOf_51 rfl (lv_at hl 0 rfl) ?_
      obtain ⟨h_3, hfn⟩ := zg_s hfn
      refine va_lald hx hb hK hP 3 2 rfl rfl h_3 dX12_exactOf_52 ?_
      have ho := Option.some.inj hfn
      subst ho
      exact zrl hx hb hr hK hP hD hS hQ rfl hlocks dX12_exactOf_53
    have hfn := (if_pos c_2).symm.trans hfn
    refine lv_iload_n hx hb dX12_exactOf_25 rfl (lv_at hl 3 rfl) ?_
    refine lv_if_eq (tgt := 38) hx hb dX12_exactOf_26 (of_decide_eq_true rfl) (fun c_4 => ?_) (fun c_4 => ?_)
    · have hfn := (if_pos c_4).symm.trans hfn
      refine lv_aload_n hx hb dX12_exactOf_38 rfl (lv_at hl 1 rfl) ?_
      refine va_get (D := (dC, dI)) (ci := 12) (v := .ref (a0 22)) (C := RX12) (T := TX12) (N := 67) hx hb hts zn_X12_exactOf_X12 hown hK hP 0 rfl rfl 22 (of_decide_eq_true rfl) (hts (.fieldLink RX12 77 "ShortEnoughModel" "firstV" "[J") zw_X12_exactOf_1364) (fun _ h9 => h9) rfl dX12_exactOf_39 ?_
      refine lv_iload_n hx hb dX12_exactOf_42 rfl (lv_at hl 2 rfl) ?_
      obtain ⟨h_5, hfn⟩ := zg_s hfn
      refine va_lald hx hb hK hP 4 3 rfl rfl h_5 dX12_exactOf_43 ?_
      refine lv_goto (tgt := 53) hx hb dX12_exactOf_44 (of_decide_eq_true rfl) ?_
      have ho := Option.some.inj hfn
      subst ho
      exact zrl hx hb hr hK hP hD hS hQ rfl hlocks dX12_exactOf_53
    have hfn := (if_neg c_4).symm.trans hfn
    refine lv_aload_n hx hb dX12_exactOf_29 rfl (lv_at hl 1 rfl) ?_
    refine va_get (D := (dC, dI)) (ci := 12) (v := .ref (a0 23)) (C := RX12) (T := TX12) (N := 67) hx hb hts zn_X12_exactOf_X12 hown hK hP 0 rfl rfl 23 (of_decide_eq_true rfl) (hts (.fieldLink RX12 81 "ShortEnoughModel" "secondV" "[J") zw_X12_exactOf_1365) (fun _ h9 => h9) rfl dX12_exactOf_30 ?_
    refine lv_iload_n hx hb dX12_exactOf_33 rfl (lv_at hl 2 rfl) ?_
    obtain ⟨h_6, hfn⟩ := zg_s hfn
    refine va_lald hx hb hK hP 5 4 rfl rfl h_6 dX12_exactOf_34 ?_
    refine lv_goto (tgt := 53) hx hb dX12_exactOf_35 (of_decide_eq_true rfl) ?_
    have ho := Option.some.inj hfn
    subst ho
    exact zrl hx hb hr hK hP hD hS hQ rfl hlocks dX12_exactOf_53
  refine lv_if_eq (tgt := 13) hx hb dX12_exactOf_1 (of_decide_eq_true rfl) (fun c_7 => ?_) (fun c_7 => ?_)
  · have hfn := (if_pos c_7).symm.trans hfn
    refine lv_aload_n hx hb dX12_exactOf_13 rfl (lv_at hl 0 rfl) ?_
    refine va_get (D := (dC, dI)) (ci := 12) (v := .ref (a0 20)) (C := RX12) (T := TX12) (N := 67) hx hb hts zn_X12_exactOf_X12 hown hK hP 0 rfl rfl 20 (of_decide_eq_true rfl) (hts (.fieldLink RX12 71 "ShortEnoughModel" "first" "[I") zw_X12_exactOf_1361) (fun _ h9 => h9) rfl dX12_exactOf_14 ?_
    refine lv_iload_n hx hb dX12_exactOf_17 rfl (lv_at hl 1 rfl) ?_
    obtain ⟨h_8, hfn⟩ := zg_s hfn
    refine va_iald hx hb hK hP 1 0 rfl rfl h_8 dX12_exactOf_18 ?_
    exact jp_1 (f1 p1.toNatClampNeg) s.heap [] ls hfn hP hD hS (lv_sub hl [0, 1, 2] rfl)
  have hfn := (if_neg c_7).symm.trans hfn
  refine lv_aload_n hx hb dX12_exactOf_4 rfl (lv_at hl 0 rfl) ?_
  refine va_get (D := (dC, dI)) (ci := 12) (v := .ref (a0 21)) (C := RX12) (T := TX12) (N := 67) hx hb hts zn_X12_exactOf_X12 hown hK hP 0 rfl rfl 21 (of_decide_eq_true rfl) (hts (.fieldLink RX12 74 "ShortEnoughModel" "second" "[I") zw_X12_exactOf_1362) (fun _ h9 => h9) rfl dX12_exactOf_5 ?_
  refine lv_iload_n hx hb dX12_exactOf_8 rfl (lv_at hl 1 rfl) ?_
  obtain ⟨h_9, hfn⟩ := zg_s hfn
  refine va_iald hx hb hK hP 2 1 rfl rfl h_9 dX12_exactOf_9 ?_
  refine lv_goto (tgt := 19) hx hb dX12_exactOf_10 (of_decide_eq_true rfl) ?_
  exact jp_1 (f2 p1.toNatClampNeg) s.heap [] ls hfn hP hD hS (lv_sub hl [0, 1, 2] rfl)
theorem zn_X12_castOf_X12 : ∀ w ∈ wsX120, w ∈ wsX12_castOf := fun _ h => List.mem_cons_of_mem _ (List.mem_append_right _ h)
theorem zw_X12_castOf_1367 : Cond.fieldLink RX12 71 "ShortEnoughModel" "first" "[I" ∈ wsX12_castOf := List.mem_of_getElem? (i := 2) (by decide +kernel)
theorem zw_X12_castOf_1368 : Cond.fieldLink RX12 74 "ShortEnoughModel" "second" "[I" ∈ wsX12_castOf := List.mem_of_getElem? (i := 1) (by decide +kernel)
theorem zw_X12_castOf_1369 : Cond.fieldLink RX12 213 "ShortEnoughModel" "keptAs" "[J" ∈ wsX12_castOf := List.mem_of_getElem? (i := 5) (by decide +kernel)
theorem zw_X12_castOf_1370 : Cond.fieldLink RX12 77 "ShortEnoughModel" "firstV" "[J" ∈ wsX12_castOf := List.mem_of_getElem? (i := 4) (by decide +kernel)
theorem zw_X12_castOf_1371 : Cond.fieldLink RX12 81 "ShortEnoughModel" "secondV" "[J" ∈ wsX12_castOf := List.mem_of_getElem? (i := 3) (by decide +kernel)
theorem zw_X12_castOf_1372 : Cond.fieldLink RX12 53 "ShortEnoughModel" "step" "[I" ∈ wsX12_castOf := List.mem_of_getElem? (i := 6) (by decide +kernel)
theorem zw_X12_castOf_1373 : Cond.fieldLink RX12 125 "ShortEnoughModel" "hand" "[I" ∈ wsX12_castOf := List.mem_of_getElem? (i := 7) (by decide +kernel)
set_option maxHeartbeats 4000000 in
set_option maxRecDepth 100000 in
theorem zf_X12_castOf (l : Launch) (dC : Nat → ClassId) (dI : Nat → Nat → Nat) (h0 : Nat) (p1 : Int32) (p2 : Int32) (a0 : Nat → Nat) (b0 : Nat → Int32) (c0 : Nat → Int64) (k1 : Nat) (f1 : Nat → Int32) (k2 : Nat) (f2 : Nat → Int32) (k3 : Nat) (f3 : Nat → Int64) (k4 : Nat) (f4 : Nat → Int64) (k5 : Nat) (f5 : Nat → Int64) (k6 : Nat) (f6 : Nat → Int32) (k7 : Nat) (f7 : Nat → Int32) (o : Int64) (hfn : fn_X12_castOf p1 p2 f1 f2 f3 f4 f5 f6 f7 = some o) (sz : Nat) : zMl l yX12_castOf wsX12_castOf ({ frames := 2, cells := 0, slots := 0, locals := 48 }) (dC, dI) vwCl [.ref h0, .int p1, .int p2] [(h0, .inr (12, zO a0 b0 c0)), zVi (a0 20) k1 28 f1, zVi (a0 21) k2 28 f2, zVl (a0 66) k3 14 f3, zVl (a0 22) k4 28 f4, zVl (a0 23) k5 28 f5, zVi (a0 37) k6 14 f6, zVi (a0 14) k7 8 f7] [(k1, .int), (k2, .int), (k3, .long), (k4, .long), (k5, .long), (k6, .int), (k7, .int)] (fun r _ => r = o) [(h0, .inr (12, zO a0 b0 c0)), zVi (a0 20) k1 28 f1, zVi (a0 21) k2 28 f2, zVl (a0 66) k3 14 f3, zVl (a0 22) k4 28 f4, zVl (a0 23) k5 28 f5, zVi (a0 37) k6 14 f6, zVi (a0 14) k7 8 f7] [(k1, .int), (k2, .int), (k3, .long), (k4, .long), (k5, .long), (k6, .int), (k7, .int)] sz := by
  refine zgol (cc := cX12_castOf) (maxL := 4) (ret := (some .long)) (C0 := RX12) (lv0 := [(0, .ref h0), (1, .int p1), (2, .int p2)]) zpl_X12 rfl rfl rfl (Nat.le_of_ble_eq_true rfl) ?_
  intro p e s m below meth c A ls Q hx hb hr hts hown hlocks hml hP hK hD hA hS hl hQ
  unfold fn_X12_castOf at hfn
  refine lv_iload_n hx hb dX12_castOf_0 rfl (lv_at hl 2 rfl) ?_
  obtain ⟨j_1, ej_1, hfn⟩ := zj_g hfn
  have jp_1 : ∀ (s_1 : Int32) (H : Heap) (locs : List Loc) (ls : Array Slot), j_1 s_1 = some o → va_P (dC, dI) vwCl [(h0, .inr (12, zO a0 b0 c0)), zVi (a0 20) k1 28 f1, zVi (a0 21) k2 28 f2, zVl (a0 66) k3 14 f3, zVl (a0 22) k4 28 f4, zVl (a0 23) k5 28 f5, zVi (a0 37) k6 14 f6, zVi (a0 14) k7 8 f7] H → va_D A [(h0, .inr (12, zO a0 b0 c0)), zVi (a0 20) k1 28 f1, zVi (a0 21) k2 28 f2, zVl (a0 66) k3 14 f3, zVl (a0 22) k4 28 f4, zVl (a0 23) k5 28 f5, zVi (a0 37) k6 14 f6, zVi (a0 14) k7 8 f7] → va_S A s.heap H locs → lv_has ls 4 [(0, .ref h0), (1, .int p1), (2, .int p2)] → W p l e (headSpec wsX12_castOf ({ frames := 2, cells := 0, slots := 0, locals := 48 })).room s m ([.ref h0, .int p1, .int p2] : List Value).toArray below meth c H locs 0 0 Q (F0 m 19 ls [.int s_1]) := by
    intro s_1 H locs ls hfn hP hD hS hl
    have hfn := zj_s ej_1 hfn
    refine lv_istore_n (lv' := [(3, .int s_1), (0, .ref h0), (1, .int p1), (2, .int p2)]) hx hb dX12_castOf_19 rfl hl (of_decide_eq_true rfl) rfl (fun ls hl => ?_)
    refine lv_iload_n hx hb dX12_castOf_20 rfl (lv_at hl 0 rfl) ?_
    refine lv_iconst (v := (-1)) hx hb dX12_castOf_21 zci_m1 ?_
    obtain ⟨j_2, ej_2, hfn⟩ := zj_g hfn
    have jp_2 : ∀ (s_2 : Int64) (H : Heap) (locs : List Loc) (ls : Array Slot), j_2 s_2 = some o → va_P (dC, dI) vwCl [(h0, .inr (12, zO a0 b0 c0)), zVi (a0 20) k1 28 f1, zVi (a0 21) k2 28 f2, zVl (a0 66) k3 14 f3, zVl (a0 22) k4 28 f4, zVl (a0 23) k5 28 f5, zVi (a0 37) k6 14 f6, zVi (a0 14) k7 8 f7] H → va_D A [(h0, .inr (12, zO a0 b0 c0)), zVi (a0 20) k1 28 f1, zVi (a0 21) k2 28 f2, zVl (a0 66) k3 14 f3, zVl (a0 22) k4 28 f4, zVl (a0 23) k5 28 f5, zVi (a0 37) k6 14 f6, zVi (a0 14) k7 8 f7] → va_S A s.heap H locs → lv_has ls 4 [(0, .ref h0), (1, .int p1)] → W p l e (headSpec wsX12_castOf ({ frames := 2, cells := 0, slots := 0, locals := 48 })).room s m ([.ref h0, .int p1, .int p2] : List Value).toArray below meth c H locs 0 0 Q (F0 m 53 ls [.long s_2]) := by
      intro s_2 H locs ls hfn hP hD hS hl
      have hfn := zj_s ej_2 hfn
      refine lv_aload_n hx hb dX12_castOf_53 rfl (lv_at hl 0 rfl) ?_
      refine va_get (D := (dC, dI)) (ci := 12) (v := .ref (a0 14)) (C := RX12) (T := TX12) (N := 67) hx hb hts zn_X12_castOf_X12 hown hK hP 0 rfl rfl 14 (of_decide_eq_true rfl) (hts (.fieldLink RX12 53 "ShortEnoughModel" "step" "[I") zw_X12_castOf_1372) (fun _ h9 => h9) rfl dX12_castOf_54 ?_
      refine lv_aload_n hx hb dX12_castOf_57 rfl (lv_at hl 0 rfl) ?_
      refine va_get (D := (dC, dI)) (ci := 12) (v := .ref (a0 37)) (C := RX12) (T := TX12) (N := 67) hx hb hts zn_X12_castOf_X12 hown hK hP 0 rfl rfl 37 (of_decide_eq_true rfl) (hts (.fieldLink RX12 125 "ShortEnoughModel" "hand" "[I") zw_X12_castOf_1373) (fun _ h9 => h9) rfl dX12_castOf_58 ?_
      refine lv_iload_n hx hb dX12_castOf_61 rfl (lv_at hl 1 rfl) ?_
      obtain ⟨h_3, hfn⟩ := zg_s hfn
      refine va_iald hx hb hK hP 6 5 rfl rfl h_3 dX12_castOf_62 ?_
      obtain ⟨h_4, hfn⟩ := zg_s hfn
      refine va_iald hx hb hK hP 7 6 rfl rfl h_4 dX12_castOf_63 ?_
      refine lv_i2l (v := (f7 (f6 p1.toNatClampNeg).toNatClampNeg).toInt64) hx hb dX12_castOf_64 rfl ?_
      obtain ⟨o_5, hqo_5, hfn⟩ := zb_s hfn
      refine zcSl (rest := []) (pc' := 68) (ws' := [(h0, .inr (12, zO a0 b0 c0)), zVi (a0 20) k1 28 f1, zVi (a0 21) k2 28 f2, zVl (a0 66) k3 14 f3, zVl (a0 22) k4 28 f4, zVl (a0 23) k5 28 f5, zVi (a0 37) k6 14 f6, zVi (a0 14) k7 8 f7]) hP hK hD hS hA ⟨hx, hb, hml, hown, hts⟩ (zf_X12_rounded l dC dI s_2 ((f7 (f6 p1.toNatClampNeg).toNatClampNeg).toInt64) o_5 hqo_5 H.size) (va_cwS 2 hts gX12_castOf_X12_rounded rfl rfl rfl zhd_X12_rounded.2 ⟨Nat.le_of_ble_eq_true rfl, Nat.le_of_ble_eq_true rfl⟩) [] rfl (of_decide_eq_true rfl) [] rfl rfl hl.1 rfl (Nat.le_of_ble_eq_true rfl) dX12_castOf_65 ⟨Nat.le_of_ble_eq_true rfl, Nat.le_of_ble_eq_true rfl⟩ [] (of_decide_eq_true rfl) (of_decide_eq_true rfl) rfl rfl rfl (fun H locs hP hD hS => ?_)
      have ho := Option.some.inj hfn
      subst ho
      exact zrl hx hb hr hK hP hD hS hQ rfl hlocks dX12_castOf_68
    refine lv_icmp_ne (tgt := 47) hx hb dX12_castOf_22 (of_decide_eq_true rfl) (fun c_9 => ?_) (fun c_9 => ?_)
    · have hfn := (if_neg c_9).symm.trans hfn
      refine lv_aload_n hx hb dX12_castOf_47 rfl (lv_at hl 1 rfl) ?_
      refine va_get (D := (dC, dI)) (ci := 12) (v := .ref (a0 66)) (C := RX12) (T := TX12) (N := 67) hx hb hts zn_X12_castOf_X12 hown hK hP 0 rfl rfl 66 (of_decide_eq_true rfl) (hts (.fieldLink RX12 213 "ShortEnoughModel" "keptAs" "[J") zw_X12_castOf_1369) (fun _ h9 => h9) rfl dX12_castOf_48 ?_
      refine lv_iload_n hx hb dX12_castOf_51 rfl (lv_at hl 0 rfl) ?_
      obtain ⟨h_10, hfn⟩ := zg_s hfn
      refine va_lald hx hb hK hP 3 2 rfl rfl h_10 dX12_castOf_52 ?_
      exact jp_2 (f3 s_1.toNatClampNeg) H locs ls hfn hP hD hS (lv_sub hl [1, 2] rfl)
    have hfn := (if_pos c_9).symm.trans hfn
    refine lv_iload_n hx hb dX12_castOf_25 rfl (lv_at hl 3 rfl) ?_
    refine lv_if_eq (tgt := 38) hx hb dX12_castOf_26 (of_decide_eq_true rfl) (fun c_11 => ?_) (fun c_11 => ?_)
    · have hfn := (if_pos c_11).symm.trans hfn
      refine lv_aload_n hx hb dX12_castOf_38 rfl (lv_at hl 1 rfl) ?_
      refine va_get (D := (dC, dI)) (ci := 12) (v := .ref (a0 22)) (C := RX12) (T := TX12) (N := 67) hx hb hts zn_X12_castOf_X12 hown hK hP 0 rfl rfl 22 (of_decide_eq_true rfl) (hts (.fieldLink RX12 77 "ShortEnoughModel" "firstV" "[J") zw_X12_castOf_1370) (fun _ h9 => h9) rfl dX12_castOf_39 ?_
      refine lv_iload_n hx hb dX12_castOf_42 rfl (lv_at hl 2 rfl) ?_
      obtain ⟨h_12, hfn⟩ := zg_s hfn
      refine va_lald hx hb hK hP 4 3 rfl rfl h_12 dX12_castOf_43 ?_
      refine lv_goto (tgt := 53) hx hb dX12_castOf_44 (of_decide_eq_true rfl) ?_
      exact jp_2 (f4 p1.toNatClampNeg) H locs ls hfn hP hD hS (lv_sub hl [1, 2] rfl)
    have hfn := (if_neg c_11).symm.trans hfn
    refine lv_aload_n hx hb dX12_castOf_29 rfl (lv_at hl 1 rfl) ?_
    refine va_get (D := (dC, dI)) (ci := 12) (v := .ref (a0 23)) (C := RX12) (T := TX12) (N := 67) hx hb hts zn_X12_castOf_X12 hown hK hP 0 rfl rfl 23 (of_decide_eq_true rfl) (hts (.fieldLink RX12 81 "ShortEnoughModel" "secondV" "[J") zw_X12_castOf_1371) (fun _ h9 => h9) rfl dX12_castOf_30 ?_
    refine lv_iload_n hx hb dX12_castOf_33 rfl (lv_at hl 2 rfl) ?_
    obtain ⟨h_13, hfn⟩ := zg_s hfn
    refine va_lald hx hb hK hP 5 4 rfl rfl h_13 dX12_castOf_34 ?_
    refine lv_goto (tgt := 53) hx hb dX12_castOf_35 (of_decide_eq_true rfl) ?_
    exact jp_2 (f5 p1.toNatClampNeg) H locs ls hfn hP hD hS (lv_sub hl [1, 2] rfl)
  refine lv_if_eq (tgt := 13) hx hb dX12_castOf_1 (of_decide_eq_true rfl) (fun c_14 => ?_) (fun c_14 => ?_)
  · have hfn := (if_pos c_14).symm.trans hfn
    refine lv_aload_n hx hb dX12_castOf_13 rfl (lv_at hl 0 rfl) ?_
    refine va_get (D := (dC, dI)) (ci := 12) (v := .ref (a0 20)) (C := RX12) (T := TX12) (N := 67) hx hb hts zn_X12_castOf_X12 hown hK hP 0 rfl rfl 20 (of_decide_eq_true rfl) (hts (.fieldLink RX12 71 "ShortEnoughModel" "first" "[I") zw_X12_castOf_1367) (fun _ h9 => h9) rfl dX12_castOf_14 ?_
    refine lv_iload_n hx hb dX12_castOf_17 rfl (lv_at hl 1 rfl) ?_
    obtain ⟨h_15, hfn⟩ := zg_s hfn
    refine va_iald hx hb hK hP 1 0 rfl rfl h_15 dX12_castOf_18 ?_
    exact jp_1 (f1 p1.toNatClampNeg) s.heap [] ls hfn hP hD hS (lv_sub hl [0, 1, 2] rfl)
  have hfn := (if_neg c_14).symm.trans hfn
  refine lv_aload_n hx hb dX12_castOf_4 rfl (lv_at hl 0 rfl) ?_
  refine va_get (D := (dC, dI)) (ci := 12) (v := .ref (a0 21)) (C := RX12) (T := TX12) (N := 67) hx hb hts zn_X12_castOf_X12 hown hK hP 0 rfl rfl 21 (of_decide_eq_true rfl) (hts (.fieldLink RX12 74 "ShortEnoughModel" "second" "[I") zw_X12_castOf_1368) (fun _ h9 => h9) rfl dX12_castOf_5 ?_
  refine lv_iload_n hx hb dX12_castOf_8 rfl (lv_at hl 1 rfl) ?_
  obtain ⟨h_16, hfn⟩ := zg_s hfn
  refine va_iald hx hb hK hP 2 1 rfl rfl h_16 dX12_castOf_9 ?_
  refine lv_goto (tgt := 19) hx hb dX12_castOf_10 (of_decide_eq_true rfl) ?_
  exact jp_1 (f2 p1.toNatClampNeg) s.heap [] ls hfn hP hD hS (lv_sub hl [0, 1, 2] rfl)
theorem zn_X12_triesOnce_X12 : ∀ w ∈ wsX120, w ∈ wsX12_triesOnce := fun _ h => List.mem_cons_of_mem _ (List.mem_append_right _ h)
theorem zw_X12_triesOnce_1375 : Cond.fieldLink RX12 62 "ShortEnoughModel" "numbers" "[I" ∈ wsX12_triesOnce := List.mem_of_getElem? (i := 1) (by decide +kernel)
theorem zw_X12_triesOnce_1376 : Cond.fieldLink RX12 53 "ShortEnoughModel" "step" "[I" ∈ wsX12_triesOnce := List.mem_of_getElem? (i := 2) (by decide +kernel)
theorem zw_X12_triesOnce_1377 : Cond.fieldLink RX12 125 "ShortEnoughModel" "hand" "[I" ∈ wsX12_triesOnce := List.mem_of_getElem? (i := 3) (by decide +kernel)
theorem zw_X12_triesOnce_1378 : Cond.fieldLink RX12 68 "ShortEnoughModel" "op" "[I" ∈ wsX12_triesOnce := List.mem_of_getElem? (i := 4) (by decide +kernel)
theorem zw_X12_triesOnce_1379 : Cond.fieldLink RX12 210 "ShortEnoughModel" "exact" "[J" ∈ wsX12_triesOnce := List.mem_of_getElem? (i := 5) (by decide +kernel)
theorem zw_X12_triesOnce_1380 : Cond.fieldLink RX12 213 "ShortEnoughModel" "keptAs" "[J" ∈ wsX12_triesOnce := List.mem_of_getElem? (i := 8) (by decide +kernel)
theorem zw_X12_triesOnce_1381 : Cond.fieldLink RX12 77 "ShortEnoughModel" "firstV" "[J" ∈ wsX12_triesOnce := List.mem_of_getElem? (i := 6) (by decide +kernel)
theorem zw_X12_triesOnce_1382 : Cond.fieldLink RX12 81 "ShortEnoughModel" "secondV" "[J" ∈ wsX12_triesOnce := List.mem_of_getElem? (i := 7) (by decide +kernel)
set_option maxHeartbeats 4000000 in
set_option maxRecDepth 100000 in
theorem zf_X12_triesOnce (l : Launch) (dC : Nat → ClassId) (dI : Nat → Nat → Nat) (h0 : Nat) (a0 : Nat → Nat) (b0 : Nat → Int32) (c0 : Nat → Int64) (k1 : Nat) (f1 : Nat → Int32) (k2 : Nat) (f2 : Nat → Int32) (k3 : Nat) (f3 : Nat → Int32) (k4 : Nat) (f4 : Nat → Int32) (k5 : Nat) (f5 : Nat → Int32) (k6 : Nat) (f6 : Nat → Int32) (k7 : Nat) (f7 : Nat → Int64) (k8 : Nat) (f8 : Nat → Int64) (k9 : Nat) (f9 : Nat → Int64) (k10 : Nat) (f10 : Nat → Int64) (o : Int32 × (Nat → Int64) × (Nat → Int64)) (hfn : fn_X12_triesOnce (b0 64) f1 f2 f3 f4 f5 f6 f7 f8 f9 f10 = some o) (sz : Nat) : zMv l yX12_triesOnce wsX12_triesOnce ({ frames := 3, cells := 0, slots := 0, locals := 76 }) (dC, dI) vwCl [.ref h0] [(h0, .inr (12, zO a0 b0 c0)), zVi (a0 17) k1 2 f1, zVi (a0 37) k2 14 f2, zVi (a0 14) k3 8 f3, zVi (a0 19) k4 28 f4, zVi (a0 20) k5 28 f5, zVi (a0 21) k6 28 f6, zVl (a0 65) k7 14 f7, zVl (a0 22) k8 28 f8, zVl (a0 23) k9 28 f9, zVl (a0 66) k10 14 f10] [(k1, .int), (k2, .int), (k3, .int), (k4, .int), (k5, .int), (k6, .int), (k7, .long), (k8, .long), (k9, .long), (k10, .long)] (fun _ => True) [(h0, .inr (12, zO a0 (zI b0 64 o.1) c0)), zVi (a0 17) k1 2 f1, zVi (a0 37) k2 14 f2, zVi (a0 14) k3 8 f3, zVi (a0 19) k4 28 f4, zVi (a0 20) k5 28 f5, zVi (a0 21) k6 28 f6, zVl (a0 65) k7 14 o.2.1, zVl (a0 22) k8 28 f8, zVl (a0 23) k9 28 f9, zVl (a0 66) k10 14 o.2.2] [(k1, .int), (k2, .int), (k3, .int), (k4, .int), (k5, .int), (k6, .int), (k7, .long), (k8, .long), (k9, .long), (k10, .long)] sz := by
  refine zgov (cc := cX12_triesOnce) (maxL := 4) (ret := none) (C0 := RX12) (lv0 := [(0, .ref h0)]) zpl_X12 rfl rfl rfl (Nat.le_of_ble_eq_true rfl) ?_
  intro p e s m below meth c A ls Q hx hb hr hts hown hlocks hml hP hK hD hA hS hl hQ
  unfold fn_X12_triesOnce at hfn
  refine lv_iconst (v := 0) hx hb dX12_triesOnce_0 zci_0 ?_
  refine lv_istore_n (lv' := [(1, .int 0), (0, .ref h0)]) hx hb dX12_triesOnce_1 rfl hl (of_decide_eq_true rfl) rfl (fun ls hl => ?_)
  obtain ⟨bd_1, ebd_1, hfn⟩ := zl_g hfn
  have lp_1 : ∀ (n : Nat) (s_1 : Int32 × Int32 × (Nat → Int64) × (Nat → Int64)) (H : Heap) (locs : List Loc) (ls : Array Slot), zl bd_1 n s_1 = some o → va_P (dC, dI) vwCl [(h0, .inr (12, zO a0 (zI b0 64 s_1.2.1) c0)), zVi (a0 17) k1 2 f1, zVi (a0 37) k2 14 f2, zVi (a0 14) k3 8 f3, zVi (a0 19) k4 28 f4, zVi (a0 20) k5 28 f5, zVi (a0 21) k6 28 f6, zVl (a0 65) k7 14 s_1.2.2.1, zVl (a0 22) k8 28 f8, zVl (a0 23) k9 28 f9, zVl (a0 66) k10 14 s_1.2.2.2] H → va_D A [(h0, .inr (12, zO a0 (zI b0 64 s_1.2.1) c0)), zVi (a0 17) k1 2 f1, zVi (a0 37) k2 14 f2, zVi (a0 14) k3 8 f3, zVi (a0 19) k4 28 f4, zVi (a0 20) k5 28 f5, zVi (a0 21) k6 28 f6, zVl (a0 65) k7 14 s_1.2.2.1, zVl (a0 22) k8 28 f8, zVl (a0 23) k9 28 f9, zVl (a0 66) k10 14 s_1.2.2.2] → va_S A s.heap H locs → lv_has ls 4 [(1, .int s_1.1), (0, .ref h0)] → W p l e (headSpec wsX12_triesOnce ({ frames := 3, cells := 0, slots := 0, locals := 76 })).room s m ([.ref h0] : List Value).toArray below meth c H locs 0 0 Q (F0 m 2 ls []) := by
    intro n
    induction n with
    | zero => exact fun _ _ _ _ hfn => (zl_0 hfn).elim
    | succ n ih_1 =>
      intro s_1 H locs ls hfn hP hD hS hl
      have hfn := zl_s ebd_1 hfn
      refine lv_iload_n hx hb dX12_triesOnce_2 rfl (lv_at hl 0 rfl) ?_
      refine lv_aload_n hx hb dX12_triesOnce_3 rfl (lv_at hl 1 rfl) ?_
      refine va_get (D := (dC, dI)) (ci := 12) (v := .ref (a0 17)) (C := RX12) (T := TX12) (N := 67) hx hb hts zn_X12_triesOnce_X12 hown hK hP 0 rfl rfl 17 (of_decide_eq_true rfl) (hts (.fieldLink RX12 62 "ShortEnoughModel" "numbers" "[I") zw_X12_triesOnce_1375) (fun _ h9 => h9) rfl dX12_triesOnce_4 ?_
      refine lv_iconst (v := 0) hx hb dX12_triesOnce_7 zci_0 ?_
      refine va_iald hx hb hK hP 1 0 rfl rfl (zv_in (by decide +kernel)) dX12_triesOnce_8 ?_
      refine lv_icmp_ge (tgt := 147) hx hb dX12_triesOnce_9 (of_decide_eq_true rfl) (fun c_2 => ?_) (fun c_2 => ?_)
      · have hfn := (if_pos c_2).symm.trans hfn
        have ho := Option.some.inj hfn
        subst ho
        exact zrv hx hb hr hK hP hD hS hQ trivial hlocks dX12_triesOnce_147
      have hfn := (if_neg c_2).symm.trans hfn
      refine lv_aload_n hx hb dX12_triesOnce_12 rfl (lv_at hl 1 rfl) ?_
      refine va_get (D := (dC, dI)) (ci := 12) (v := .ref (a0 14)) (C := RX12) (T := TX12) (N := 67) hx hb hts zn_X12_triesOnce_X12 hown hK hP 0 rfl rfl 14 (of_decide_eq_true rfl) (hts (.fieldLink RX12 53 "ShortEnoughModel" "step" "[I") zw_X12_triesOnce_1376) (fun _ h9 => h9) rfl dX12_triesOnce_13 ?_
      refine lv_aload_n hx hb dX12_triesOnce_16 rfl (lv_at hl 1 rfl) ?_
      refine va_get (D := (dC, dI)) (ci := 12) (v := .ref (a0 37)) (C := RX12) (T := TX12) (N := 67) hx hb hts zn_X12_triesOnce_X12 hown hK hP 0 rfl rfl 37 (of_decide_eq_true rfl) (hts (.fieldLink RX12 125 "ShortEnoughModel" "hand" "[I") zw_X12_triesOnce_1377) (fun _ h9 => h9) rfl dX12_triesOnce_17 ?_
      refine lv_iload_n hx hb dX12_triesOnce_20 rfl (lv_at hl 0 rfl) ?_
      obtain ⟨h_3, hfn⟩ := zg_s hfn
      refine va_iald hx hb hK hP 2 1 rfl rfl h_3 dX12_triesOnce_21 ?_
      obtain ⟨h_4, hfn⟩ := zg_s hfn
      refine va_iald hx hb hK hP 3 2 rfl rfl h_4 dX12_triesOnce_22 ?_
      refine lv_i2l (v := (f3 (f2 s_1.1.toNatClampNeg).toNatClampNeg).toInt64) hx hb dX12_triesOnce_23 rfl ?_
      refine lv_lstore_n (lv' := [(2, .long (f3 (f2 s_1.1.toNatClampNeg).toNatClampNeg).toInt64), (1, .int s_1.1), (0, .ref h0)]) hx hb dX12_triesOnce_24 rfl hl (of_decide_eq_true rfl) rfl (fun ls hl => ?_)
      refine lv_aload_n hx hb dX12_triesOnce_25 rfl (lv_at hl 2 rfl) ?_
      refine va_get (D := (dC, dI)) (ci := 12) (v := .ref (a0 19)) (C := RX12) (T := TX12) (N := 67) hx hb hts zn_X12_triesOnce_X12 hown hK hP 0 rfl rfl 19 (of_decide_eq_true rfl) (hts (.fieldLink RX12 68 "ShortEnoughModel" "op" "[I") zw_X12_triesOnce_1378) (fun _ h9 => h9) rfl dX12_triesOnce_26 ?_
      refine lv_iload_n hx hb dX12_triesOnce_29 rfl (lv_at hl 1 rfl) ?_
      obtain ⟨h_5, hfn⟩ := zg_s hfn
      refine va_iald hx hb hK hP 4 3 rfl rfl h_5 dX12_triesOnce_30 ?_
      refine lv_if_ne (tgt := 85) hx hb dX12_triesOnce_31 (of_decide_eq_true rfl) (fun c_6 => ?_) (fun c_6 => ?_)
      · have hfn := (if_neg c_6).symm.trans hfn
        refine lv_aload_n hx hb dX12_triesOnce_85 rfl (lv_at hl 2 rfl) ?_
        refine va_get (D := (dC, dI)) (ci := 12) (v := .ref (a0 65)) (C := RX12) (T := TX12) (N := 67) hx hb hts zn_X12_triesOnce_X12 hown hK hP 0 rfl rfl 65 (of_decide_eq_true rfl) (hts (.fieldLink RX12 210 "ShortEnoughModel" "exact" "[J") zw_X12_triesOnce_1379) (fun _ h9 => h9) rfl dX12_triesOnce_86 ?_
        refine lv_iload_n hx hb dX12_triesOnce_89 rfl (lv_at hl 1 rfl) ?_
        refine lv_aload_n hx hb dX12_triesOnce_90 rfl (lv_at hl 2 rfl) ?_
        refine va_get (D := (dC, dI)) (ci := 12) (v := .ref (a0 19)) (C := RX12) (T := TX12) (N := 67) hx hb hts zn_X12_triesOnce_X12 hown hK hP 0 rfl rfl 19 (of_decide_eq_true rfl) (hts (.fieldLink RX12 68 "ShortEnoughModel" "op" "[I") zw_X12_triesOnce_1378) (fun _ h9 => h9) rfl dX12_triesOnce_91 ?_
        refine lv_iload_n hx hb dX12_triesOnce_94 rfl (lv_at hl 1 rfl) ?_
        refine va_iald hx hb hK hP 4 3 rfl rfl h_5 dX12_triesOnce_95 ?_
        refine lv_aload_n hx hb dX12_triesOnce_96 rfl (lv_at hl 2 rfl) ?_
        refine lv_iload_n hx hb dX12_triesOnce_97 rfl (lv_at hl 1 rfl) ?_
        refine lv_iconst (v := 0) hx hb dX12_triesOnce_98 zci_0 ?_
        obtain ⟨o_7, hqo_7, hfn⟩ := zb_s hfn
        refine zcVl (ci := 12) (rest := [.int (f4 s_1.1.toNatClampNeg), .int s_1.1, .ref (a0 65)]) (pc' := 102) (ws' := [(h0, .inr (12, zO a0 (zI b0 64 s_1.2.1) c0)), zVi (a0 17) k1 2 f1, zVi (a0 37) k2 14 f2, zVi (a0 14) k3 8 f3, zVi (a0 19) k4 28 f4, zVi (a0 20) k5 28 f5, zVi (a0 21) k6 28 f6, zVl (a0 65) k7 14 s_1.2.2.1, zVl (a0 22) k8 28 f8, zVl (a0 23) k9 28 f9, zVl (a0 66) k10 14 s_1.2.2.2]) hP hK hD hS hA ⟨hx, hb, hml, hown, hts⟩ (zf_X12_exactOf l dC dI h0 s_1.1 0 a0 (zI b0 64 s_1.2.1) c0 k5 f5 k6 f6 k7 s_1.2.2.1 k8 f8 k9 f9 o_7 hqo_7 H.size) (cwV 2 hts gX12_triesOnce_X12_exactOf rfl rfl rfl zhd_X12_exactOf ⟨Nat.le_of_ble_eq_true rfl, Nat.le_of_ble_eq_true rfl⟩) [0, 5, 6, 7, 8, 9] rfl (of_decide_eq_true rfl) [4, 5, 6, 7, 8] rfl rfl rfl rfl hl.1 rfl (Nat.le_of_ble_eq_true rfl) dX12_triesOnce_99 ⟨Nat.le_of_ble_eq_true rfl, Nat.le_of_ble_eq_true rfl⟩ [some 0, none, none, none, none, some 1, some 2, some 3, some 4, some 5] (of_decide_eq_true rfl) (of_decide_eq_true rfl) rfl rfl rfl (fun H locs hP hD hS => ?_)
        refine lv_aload_n hx hb dX12_triesOnce_102 rfl (lv_at hl 2 rfl) ?_
        refine lv_iload_n hx hb dX12_triesOnce_103 rfl (lv_at hl 1 rfl) ?_
        refine lv_iconst (v := 1) hx hb dX12_triesOnce_104 zci_1 ?_
        obtain ⟨o_11, hqo_11, hfn⟩ := zb_s hfn
        refine zcVl (ci := 12) (rest := [.long o_7, .int (f4 s_1.1.toNatClampNeg), .int s_1.1, .ref (a0 65)]) (pc' := 108) (ws' := [(h0, .inr (12, zO a0 (zI b0 64 s_1.2.1) c0)), zVi (a0 17) k1 2 f1, zVi (a0 37) k2 14 f2, zVi (a0 14) k3 8 f3, zVi (a0 19) k4 28 f4, zVi (a0 20) k5 28 f5, zVi (a0 21) k6 28 f6, zVl (a0 65) k7 14 s_1.2.2.1, zVl (a0 22) k8 28 f8, zVl (a0 23) k9 28 f9, zVl (a0 66) k10 14 s_1.2.2.2]) hP hK hD hS hA ⟨hx, hb, hml, hown, hts⟩ (zf_X12_exactOf l dC dI h0 s_1.1 1 a0 (zI b0 64 s_1.2.1) c0 k5 f5 k6 f6 k7 s_1.2.2.1 k8 f8 k9 f9 o_11 hqo_11 H.size) (cwV 2 hts gX12_triesOnce_X12_exactOf rfl rfl rfl zhd_X12_exactOf ⟨Nat.le_of_ble_eq_true rfl, Nat.le_of_ble_eq_true rfl⟩) [0, 5, 6, 7, 8, 9] rfl (of_decide_eq_true rfl) [4, 5, 6, 7, 8] rfl rfl rfl rfl hl.1 rfl (Nat.le_of_ble_eq_true rfl) dX12_triesOnce_105 ⟨Nat.le_of_ble_eq_true rfl, Nat.le_of_ble_eq_true rfl⟩ [some 0, none, none, none, none, some 1, some 2, some 3, some 4, some 5] (of_decide_eq_true rfl) (of_decide_eq_true rfl) rfl rfl rfl (fun H locs hP hD hS => ?_)
        refine lv_lconst (v := 1) hx hb dX12_triesOnce_108 (by decide +kernel) ?_
        obtain ⟨o_15, hqo_15, hfn⟩ := zb_s hfn
        refine zcSl (rest := [.int s_1.1, .ref (a0 65)]) (pc' := 112) (ws' := [(h0, .inr (12, zO a0 (zI b0 64 s_1.2.1) c0)), zVi (a0 17) k1 2 f1, zVi (a0 37) k2 14 f2, zVi (a0 14) k3 8 f3, zVi (a0 19) k4 28 f4, zVi (a0 20) k5 28 f5, zVi (a0 21) k6 28 f6, zVl (a0 65) k7 14 s_1.2.2.1, zVl (a0 22) k8 28 f8, zVl (a0 23) k9 28 f9, zVl (a0 66) k10 14 s_1.2.2.2]) hP hK hD hS hA ⟨hx, hb, hml, hown, hts⟩ (zf_X12_two l dC dI (f4 s_1.1.toNatClampNeg) o_7 o_11 (1 : Int64) o_15 hqo_15 H.size) (va_cwS 4 hts gX12_triesOnce_X12_two rfl rfl rfl zhd_X12_two.2 ⟨Nat.le_of_ble_eq_true rfl, Nat.le_of_ble_eq_true rfl⟩) [] rfl (of_decide_eq_true rfl) [] rfl rfl hl.1 rfl (Nat.le_of_ble_eq_true rfl) dX12_triesOnce_109 ⟨Nat.le_of_ble_eq_true rfl, Nat.le_of_ble_eq_true rfl⟩ [] (of_decide_eq_true rfl) (of_decide_eq_true rfl) rfl rfl rfl (fun H locs hP hD hS => ?_)
        refine va_last hx hb hK hP hD hS 7 6 rfl rfl h_3 dX12_triesOnce_112 (fun H locs hP hD hS => ?_)
        have hP : va_P (dC, dI) vwCl [(h0, .inr (12, zO a0 (zI b0 64 s_1.2.1) c0)), zVi (a0 17) k1 2 f1, zVi (a0 37) k2 14 f2, zVi (a0 14) k3 8 f3, zVi (a0 19) k4 28 f4, zVi (a0 20) k5 28 f5, zVi (a0 21) k6 28 f6, zVl (a0 65) k7 14 (vp_updL s_1.2.2.1 s_1.1.toNatClampNeg o_15), zVl (a0 22) k8 28 f8, zVl (a0 23) k9 28 f9, zVl (a0 66) k10 14 s_1.2.2.2] H := hP
        have hD := zDW hD hP rfl
        refine lv_aload_n hx hb dX12_triesOnce_113 rfl (lv_at hl 2 rfl) ?_
        refine va_get (D := (dC, dI)) (ci := 12) (v := .ref (a0 66)) (C := RX12) (T := TX12) (N := 67) hx hb hts zn_X12_triesOnce_X12 hown hK hP 0 rfl rfl 66 (of_decide_eq_true rfl) (hts (.fieldLink RX12 213 "ShortEnoughModel" "keptAs" "[J") zw_X12_triesOnce_1380) (fun _ h9 => h9) rfl dX12_triesOnce_114 ?_
        refine lv_iload_n hx hb dX12_triesOnce_117 rfl (lv_at hl 1 rfl) ?_
        refine lv_aload_n hx hb dX12_triesOnce_118 rfl (lv_at hl 2 rfl) ?_
        refine va_get (D := (dC, dI)) (ci := 12) (v := .ref (a0 19)) (C := RX12) (T := TX12) (N := 67) hx hb hts zn_X12_triesOnce_X12 hown hK hP 0 rfl rfl 19 (of_decide_eq_true rfl) (hts (.fieldLink RX12 68 "ShortEnoughModel" "op" "[I") zw_X12_triesOnce_1378) (fun _ h9 => h9) rfl dX12_triesOnce_119 ?_
        refine lv_iload_n hx hb dX12_triesOnce_122 rfl (lv_at hl 1 rfl) ?_
        refine va_iald hx hb hK hP 4 3 rfl rfl h_5 dX12_triesOnce_123 ?_
        refine lv_aload_n hx hb dX12_triesOnce_124 rfl (lv_at hl 2 rfl) ?_
        refine lv_iload_n hx hb dX12_triesOnce_125 rfl (lv_at hl 1 rfl) ?_
        refine lv_iconst (v := 0) hx hb dX12_triesOnce_126 zci_0 ?_
        obtain ⟨o_19, hqo_19, hfn⟩ := zb_s hfn
        refine zcVl (ci := 12) (rest := [.int (f4 s_1.1.toNatClampNeg), .int s_1.1, .ref (a0 66)]) (pc' := 130) (ws' := [(h0, .inr (12, zO a0 (zI b0 64 s_1.2.1) c0)), zVi (a0 17) k1 2 f1, zVi (a0 37) k2 14 f2, zVi (a0 14) k3 8 f3, zVi (a0 19) k4 28 f4, zVi (a0 20) k5 28 f5, zVi (a0 21) k6 28 f6, zVl (a0 65) k7 14 (vp_updL s_1.2.2.1 s_1.1.toNatClampNeg o_15), zVl (a0 22) k8 28 f8, zVl (a0 23) k9 28 f9, zVl (a0 66) k10 14 s_1.2.2.2]) hP hK hD hS hA ⟨hx, hb, hml, hown, hts⟩ (zf_X12_castOf l dC dI h0 s_1.1 0 a0 (zI b0 64 s_1.2.1) c0 k5 f5 k6 f6 k10 s_1.2.2.2 k8 f8 k9 f9 k2 f2 k3 f3 o_19 hqo_19 H.size) (cwV 2 hts gX12_triesOnce_X12_castOf rfl rfl rfl zhd_X12_castOf ⟨Nat.le_of_ble_eq_true rfl, Nat.le_of_ble_eq_true rfl⟩) [0, 5, 6, 10, 8, 9, 2, 3] rfl (of_decide_eq_true rfl) [4, 5, 9, 7, 8, 1, 2] rfl rfl rfl rfl hl.1 rfl (Nat.le_of_ble_eq_true rfl) dX12_triesOnce_127 ⟨Nat.le_of_ble_eq_true rfl, Nat.le_of_ble_eq_true rfl⟩ [some 0, none, some 6, some 7, none, some 1, some 2, none, some 4, some 5, some 3] (of_decide_eq_true rfl) (of_decide_eq_true rfl) rfl rfl rfl (fun H locs hP hD hS => ?_)
        refine lv_aload_n hx hb dX12_triesOnce_130 rfl (lv_at hl 2 rfl) ?_
        refine lv_iload_n hx hb dX12_triesOnce_131 rfl (lv_at hl 1 rfl) ?_
        refine lv_iconst (v := 1) hx hb dX12_triesOnce_132 zci_1 ?_
        obtain ⟨o_23, hqo_23, hfn⟩ := zb_s hfn
        refine zcVl (ci := 12) (rest := [.long o_19, .int (f4 s_1.1.toNatClampNeg), .int s_1.1, .ref (a0 66)]) (pc' := 136) (ws' := [(h0, .inr (12, zO a0 (zI b0 64 s_1.2.1) c0)), zVi (a0 17) k1 2 f1, zVi (a0 37) k2 14 f2, zVi (a0 14) k3 8 f3, zVi (a0 19) k4 28 f4, zVi (a0 20) k5 28 f5, zVi (a0 21) k6 28 f6, zVl (a0 65) k7 14 (vp_updL s_1.2.2.1 s_1.1.toNatClampNeg o_15), zVl (a0 22) k8 28 f8, zVl (a0 23) k9 28 f9, zVl (a0 66) k10 14 s_1.2.2.2]) hP hK hD hS hA ⟨hx, hb, hml, hown, hts⟩ (zf_X12_castOf l dC dI h0 s_1.1 1 a0 (zI b0 64 s_1.2.1) c0 k5 f5 k6 f6 k10 s_1.2.2.2 k8 f8 k9 f9 k2 f2 k3 f3 o_23 hqo_23 H.size) (cwV 2 hts gX12_triesOnce_X12_castOf rfl rfl rfl zhd_X12_castOf ⟨Nat.le_of_ble_eq_true rfl, Nat.le_of_ble_eq_true rfl⟩) [0, 5, 6, 10, 8, 9, 2, 3] rfl (of_decide_eq_true rfl) [4, 5, 9, 7, 8, 1, 2] rfl rfl rfl rfl hl.1 rfl (Nat.le_of_ble_eq_true rfl) dX12_triesOnce_133 ⟨Nat.le_of_ble_eq_true rfl, Nat.le_of_ble_eq_true rfl⟩ [some 0, none, some 6, some 7, none, some 1, some 2, none, some 4, some 5, some 3] (of_decide_eq_true rfl) (of_decide_eq_true rfl) rfl rfl rfl (fun H locs hP hD hS => ?_)
        refine lv_lload_n hx hb dX12_triesOnce_136 rfl (lv_at hl 0 rfl) ?_
        obtain ⟨o_27, hqo_27, hfn⟩ := zb_s hfn
        refine zcSl (rest := [.int s_1.1, .ref (a0 66)]) (pc' := 140) (ws' := [(h0, .inr (12, zO a0 (zI b0 64 s_1.2.1) c0)), zVi (a0 17) k1 2 f1, zVi (a0 37) k2 14 f2, zVi (a0 14) k3 8 f3, zVi (a0 19) k4 28 f4, zVi (a0 20) k5 28 f5, zVi (a0 21) k6 28 f6, zVl (a0 65) k7 14 (vp_updL s_1.2.2.1 s_1.1.toNatClampNeg o_15), zVl (a0 22) k8 28 f8, zVl (a0 23) k9 28 f9, zVl (a0 66) k10 14 s_1.2.2.2]) hP hK hD hS hA ⟨hx, hb, hml, hown, hts⟩ (zf_X12_two l dC dI (f4 s_1.1.toNatClampNeg) o_19 o_23 ((f3 (f2 s_1.1.toNatClampNeg).toNatClampNeg).toInt64) o_27 hqo_27 H.size) (va_cwS 4 hts gX12_triesOnce_X12_two rfl rfl rfl zhd_X12_two.2 ⟨Nat.le_of_ble_eq_true rfl, Nat.le_of_ble_eq_true rfl⟩) [] rfl (of_decide_eq_true rfl) [] rfl rfl hl.1 rfl (Nat.le_of_ble_eq_true rfl) dX12_triesOnce_137 ⟨Nat.le_of_ble_eq_true rfl, Nat.le_of_ble_eq_true rfl⟩ [] (of_decide_eq_true rfl) (of_decide_eq_true rfl) rfl rfl rfl (fun H locs hP hD hS => ?_)
        refine va_last hx hb hK hP hD hS 10 9 rfl rfl h_3 dX12_triesOnce_140 (fun H locs hP hD hS => ?_)
        have hP : va_P (dC, dI) vwCl [(h0, .inr (12, zO a0 (zI b0 64 s_1.2.1) c0)), zVi (a0 17) k1 2 f1, zVi (a0 37) k2 14 f2, zVi (a0 14) k3 8 f3, zVi (a0 19) k4 28 f4, zVi (a0 20) k5 28 f5, zVi (a0 21) k6 28 f6, zVl (a0 65) k7 14 (vp_updL s_1.2.2.1 s_1.1.toNatClampNeg o_15), zVl (a0 22) k8 28 f8, zVl (a0 23) k9 28 f9, zVl (a0 66) k10 14 (vp_updL s_1.2.2.2 s_1.1.toNatClampNeg o_27)] H := hP
        have hD := zDW hD hP rfl
        refine lv_iinc (v := (s_1.1 + 1)) (lv' := [(1, .int (s_1.1 + 1)), (2, .long (f3 (f2 s_1.1.toNatClampNeg).toNatClampNeg).toInt64), (0, .ref h0)]) hx hb dX12_triesOnce_141 hl (k := 1) rfl rfl (of_decide_eq_true rfl) rfl (fun ls hl => ?_)
        refine lv_goto (tgt := 2) hx hb dX12_triesOnce_144 (of_decide_eq_true rfl) ?_
        exact ih_1 ((s_1.1 + 1), s_1.2.1, (vp_updL s_1.2.2.1 s_1.1.toNatClampNeg o_15), (vp_updL s_1.2.2.2 s_1.1.toNatClampNeg o_27)) H locs ls hfn hP hD hS (lv_sub hl [0, 2] rfl)
      have hfn := (if_pos c_6).symm.trans hfn
      refine lv_aload_n hx hb dX12_triesOnce_34 rfl (lv_at hl 2 rfl) ?_
      refine va_get (D := (dC, dI)) (ci := 12) (v := .ref (a0 65)) (C := RX12) (T := TX12) (N := 67) hx hb hts zn_X12_triesOnce_X12 hown hK hP 0 rfl rfl 65 (of_decide_eq_true rfl) (hts (.fieldLink RX12 210 "ShortEnoughModel" "exact" "[J") zw_X12_triesOnce_1379) (fun _ h9 => h9) rfl dX12_triesOnce_35 ?_
      refine lv_iload_n hx hb dX12_triesOnce_38 rfl (lv_at hl 1 rfl) ?_
      refine lv_aload_n hx hb dX12_triesOnce_39 rfl (lv_at hl 2 rfl) ?_
      refine va_get (D := (dC, dI)) (ci := 12) (v := .ref (a0 22)) (C := RX12) (T := TX12) (N := 67) hx hb hts zn_X12_triesOnce_X12 hown hK hP 0 rfl rfl 22 (of_decide_eq_true rfl) (hts (.fieldLink RX12 77 "ShortEnoughModel" "firstV" "[J") zw_X12_triesOnce_1381) (fun _ h9 => h9) rfl dX12_triesOnce_40 ?_
      refine lv_iload_n hx hb dX12_triesOnce_43 rfl (lv_at hl 1 rfl) ?_
      refine va_lald hx hb hK hP 8 7 rfl rfl h_5 dX12_triesOnce_44 ?_
      refine lv_aload_n hx hb dX12_triesOnce_45 rfl (lv_at hl 2 rfl) ?_
      refine lv_aload_n hx hb dX12_triesOnce_46 rfl (lv_at hl 2 rfl) ?_
      refine va_get (D := (dC, dI)) (ci := 12) (v := .ref (a0 23)) (C := RX12) (T := TX12) (N := 67) hx hb hts zn_X12_triesOnce_X12 hown hK hP 0 rfl rfl 23 (of_decide_eq_true rfl) (hts (.fieldLink RX12 81 "ShortEnoughModel" "secondV" "[J") zw_X12_triesOnce_1382) (fun _ h9 => h9) rfl dX12_triesOnce_47 ?_
      refine lv_iload_n hx hb dX12_triesOnce_50 rfl (lv_at hl 1 rfl) ?_
      refine va_lald hx hb hK hP 9 8 rfl rfl h_5 dX12_triesOnce_51 ?_
      refine lv_aload_n hx hb dX12_triesOnce_52 rfl (lv_at hl 2 rfl) ?_
      refine va_get (D := (dC, dI)) (ci := 12) (v := .ref (a0 22)) (C := RX12) (T := TX12) (N := 67) hx hb hts zn_X12_triesOnce_X12 hown hK hP 0 rfl rfl 22 (of_decide_eq_true rfl) (hts (.fieldLink RX12 77 "ShortEnoughModel" "firstV" "[J") zw_X12_triesOnce_1381) (fun _ h9 => h9) rfl dX12_triesOnce_53 ?_
      refine lv_iload_n hx hb dX12_triesOnce_56 rfl (lv_at hl 1 rfl) ?_
      refine va_lald hx hb hK hP 8 7 rfl rfl h_5 dX12_triesOnce_57 ?_
      refine lv_lsub hx hb dX12_triesOnce_58 ?_
      refine lv_lconst (v := 1) hx hb dX12_triesOnce_59 (by decide +kernel) ?_
      refine lv_ladd hx hb dX12_triesOnce_60 ?_
      obtain ⟨o_31, hqo_31, hfn⟩ := zb_s hfn
      refine zcVl (ci := 12) (rest := [.long (f8 s_1.1.toNatClampNeg), .int s_1.1, .ref (a0 65)]) (pc' := 64) (ws' := [(h0, .inr (12, zO a0 (zI b0 64 o_31.2) c0)), zVi (a0 17) k1 2 f1, zVi (a0 37) k2 14 f2, zVi (a0 14) k3 8 f3, zVi (a0 19) k4 28 f4, zVi (a0 20) k5 28 f5, zVi (a0 21) k6 28 f6, zVl (a0 65) k7 14 s_1.2.2.1, zVl (a0 22) k8 28 f8, zVl (a0 23) k9 28 f9, zVl (a0 66) k10 14 s_1.2.2.2]) hP hK hD hS hA ⟨hx, hb, hml, hown, hts⟩ (zf_X12_draw l dC dI h0 (((f9 s_1.1.toNatClampNeg) - (f8 s_1.1.toNatClampNeg)) + (1 : Int64)) a0 (zI b0 64 s_1.2.1) c0 o_31 hqo_31 H.size) (cwV 1 hts gX12_triesOnce_X12_draw rfl rfl rfl zhd_X12_draw ⟨Nat.le_of_ble_eq_true rfl, Nat.le_of_ble_eq_true rfl⟩) [0] rfl (of_decide_eq_true rfl) [] rfl rfl rfl rfl hl.1 rfl (Nat.le_of_ble_eq_true rfl) dX12_triesOnce_61 ⟨Nat.le_of_ble_eq_true rfl, Nat.le_of_ble_eq_true rfl⟩ [some 0] (of_decide_eq_true rfl) (of_decide_eq_true rfl) rfl rfl rfl (fun H locs hP hD hS => ?_)
      refine lv_ladd hx hb dX12_triesOnce_64 ?_
      refine va_last hx hb hK hP hD hS 7 6 rfl rfl h_3 dX12_triesOnce_65 (fun H locs hP hD hS => ?_)
      obtain ⟨g_35, eg_35⟩ : ∃ g : Nat → Int64, g = (vp_updL s_1.2.2.1 s_1.1.toNatClampNeg ((f8 s_1.1.toNatClampNeg) + o_31.1)) := ⟨_, rfl⟩
      have hfn := zn_s hfn eg_35
      have hP : va_P (dC, dI) vwCl [(h0, .inr (12, zO a0 (zI b0 64 o_31.2) c0)), zVi (a0 17) k1 2 f1, zVi (a0 37) k2 14 f2, zVi (a0 14) k3 8 f3, zVi (a0 19) k4 28 f4, zVi (a0 20) k5 28 f5, zVi (a0 21) k6 28 f6, zVl (a0 65) k7 14 g_35, zVl (a0 22) k8 28 f8, zVl (a0 23) k9 28 f9, zVl (a0 66) k10 14 s_1.2.2.2] H := by rw [eg_35]; exact hP
      have hD : va_D A [(h0, .inr (12, zO a0 (zI b0 64 o_31.2) c0)), zVi (a0 17) k1 2 f1, zVi (a0 37) k2 14 f2, zVi (a0 14) k3 8 f3, zVi (a0 19) k4 28 f4, zVi (a0 20) k5 28 f5, zVi (a0 21) k6 28 f6, zVl (a0 65) k7 14 g_35, zVl (a0 22) k8 28 f8, zVl (a0 23) k9 28 f9, zVl (a0 66) k10 14 s_1.2.2.2] := by rw [eg_35]; exact hD
      refine lv_aload_n hx hb dX12_triesOnce_66 rfl (lv_at hl 2 rfl) ?_
      refine va_get (D := (dC, dI)) (ci := 12) (v := .ref (a0 66)) (C := RX12) (T := TX12) (N := 67) hx hb hts zn_X12_triesOnce_X12 hown hK hP 0 rfl rfl 66 (of_decide_eq_true rfl) (hts (.fieldLink RX12 213 "ShortEnoughModel" "keptAs" "[J") zw_X12_triesOnce_1380) (fun _ h9 => h9) rfl dX12_triesOnce_67 ?_
      refine lv_iload_n hx hb dX12_triesOnce_70 rfl (lv_at hl 1 rfl) ?_
      refine lv_aload_n hx hb dX12_triesOnce_71 rfl (lv_at hl 2 rfl) ?_
      refine va_get (D := (dC, dI)) (ci := 12) (v := .ref (a0 65)) (C := RX12) (T := TX12) (N := 67) hx hb hts zn_X12_triesOnce_X12 hown hK hP 0 rfl rfl 65 (of_decide_eq_true rfl) (hts (.fieldLink RX12 210 "ShortEnoughModel" "exact" "[J") zw_X12_triesOnce_1379) (fun _ h9 => h9) rfl dX12_triesOnce_72 ?_
      refine lv_iload_n hx hb dX12_triesOnce_75 rfl (lv_at hl 1 rfl) ?_
      refine va_lald hx hb hK hP 7 6 rfl rfl h_3 dX12_triesOnce_76 ?_
      refine lv_lload_n hx hb dX12_triesOnce_77 rfl (lv_at hl 0 rfl) ?_
      obtain ⟨o_36, hqo_36, hfn⟩ := zb_s hfn
      refine zcSl (rest := [.int s_1.1, .ref (a0 66)]) (pc' := 81) (ws' := [(h0, .inr (12, zO a0 (zI b0 64 o_31.2) c0)), zVi (a0 17) k1 2 f1, zVi (a0 37) k2 14 f2, zVi (a0 14) k3 8 f3, zVi (a0 19) k4 28 f4, zVi (a0 20) k5 28 f5, zVi (a0 21) k6 28 f6, zVl (a0 65) k7 14 g_35, zVl (a0 22) k8 28 f8, zVl (a0 23) k9 28 f9, zVl (a0 66) k10 14 s_1.2.2.2]) hP hK hD hS hA ⟨hx, hb, hml, hown, hts⟩ (zf_X12_rounded l dC dI (g_35 s_1.1.toNatClampNeg) ((f3 (f2 s_1.1.toNatClampNeg).toNatClampNeg).toInt64) o_36 hqo_36 H.size) (va_cwS 2 hts gX12_triesOnce_X12_rounded rfl rfl rfl zhd_X12_rounded.2 ⟨Nat.le_of_ble_eq_true rfl, Nat.le_of_ble_eq_true rfl⟩) [] rfl (of_decide_eq_true rfl) [] rfl rfl hl.1 rfl (Nat.le_of_ble_eq_true rfl) dX12_triesOnce_78 ⟨Nat.le_of_ble_eq_true rfl, Nat.le_of_ble_eq_true rfl⟩ [] (of_decide_eq_true rfl) (of_decide_eq_true rfl) rfl rfl rfl (fun H locs hP hD hS => ?_)
      refine va_last hx hb hK hP hD hS 10 9 rfl rfl h_3 dX12_triesOnce_81 (fun H locs hP hD hS => ?_)
      have hP : va_P (dC, dI) vwCl [(h0, .inr (12, zO a0 (zI b0 64 o_31.2) c0)), zVi (a0 17) k1 2 f1, zVi (a0 37) k2 14 f2, zVi (a0 14) k3 8 f3, zVi (a0 19) k4 28 f4, zVi (a0 20) k5 28 f5, zVi (a0 21) k6 28 f6, zVl (a0 65) k7 14 g_35, zVl (a0 22) k8 28 f8, zVl (a0 23) k9 28 f9, zVl (a0 66) k10 14 (vp_updL s_1.2.2.2 s_1.1.toNatClampNeg o_36)] H := hP
      have hD := zDW hD hP rfl
      refine lv_goto (tgt := 141) hx hb dX12_triesOnce_82 (of_decide_eq_true rfl) ?_
      refine lv_iinc (v := (s_1.1 + 1)) (lv' := [(1, .int (s_1.1 + 1)), (2, .long (f3 (f2 s_1.1.toNatClampNeg).toNatClampNeg).toInt64), (0, .ref h0)]) hx hb dX12_triesOnce_141 hl (k := 1) rfl rfl (of_decide_eq_true rfl) rfl (fun ls hl => ?_)
      refine lv_goto (tgt := 2) hx hb dX12_triesOnce_144 (of_decide_eq_true rfl) ?_
      exact ih_1 ((s_1.1 + 1), o_31.2, g_35, (vp_updL s_1.2.2.2 s_1.1.toNatClampNeg o_36)) H locs ls hfn hP hD hS (lv_sub hl [0, 2] rfl)
  exact lp_1 _ (0, (b0 64), f7, f10) s.heap [] ls hfn hP hD hS (lv_sub hl [0, 1] rfl)
theorem zw_X12_trials_1383 : Cond.constantLong RX12 545 (40) ∈ wsX12_trials := List.mem_of_getElem? (i := 1) (by decide +kernel)
theorem zn_X12_trials_X12 : ∀ w ∈ wsX120, w ∈ wsX12_trials := fun _ h => List.mem_cons_of_mem _ (List.mem_append_right _ h)
theorem zw_X12_trials_1385 : Cond.fieldLink RX12 213 "ShortEnoughModel" "keptAs" "[J" ∈ wsX12_trials := List.mem_of_getElem? (i := 2) (by decide +kernel)
theorem zw_X12_trials_1386 : Cond.fieldLink RX12 210 "ShortEnoughModel" "exact" "[J" ∈ wsX12_trials := List.mem_of_getElem? (i := 3) (by decide +kernel)
set_option maxHeartbeats 4000000 in
set_option maxRecDepth 100000 in
theorem zf_X12_trials (l : Launch) (dC : Nat → ClassId) (dI : Nat → Nat → Nat) (h0 : Nat) (p1 : Int32) (p2 : Int32) (a0 : Nat → Nat) (b0 : Nat → Int32) (c0 : Nat → Int64) (k1 : Nat) (f1 : Nat → Int32) (k2 : Nat) (f2 : Nat → Int32) (k3 : Nat) (f3 : Nat → Int32) (k4 : Nat) (f4 : Nat → Int32) (k5 : Nat) (f5 : Nat → Int32) (k6 : Nat) (f6 : Nat → Int32) (k7 : Nat) (f7 : Nat → Int32) (k8 : Nat) (f8 : Nat → Int64) (k9 : Nat) (f9 : Nat → Int64) (k10 : Nat) (f10 : Nat → Int64) (k11 : Nat) (f11 : Nat → Int64) (k12 : Nat) (f12 : Nat → Int32) (k13 : Nat) (f13 : Nat → Int64) (k14 : Nat) (f14 : Nat → Int32) (k15 : Nat) (f15 : Nat → Int32) (k16 : Nat) (f16 : Nat → Int64) (k17 : Nat) (f17 : Nat → Int64) (o : Int64 × Int32 × Int32 × Int32 × Int32 × (Nat → Int32) × (Nat → Int32) × (Nat → Int64) × (Nat → Int64) × (Nat → Int64) × (Nat → Int64) × (Nat → Int64)) (hfn : fn_X12_trials p1 p2 (b0 33) (c0 34) (b0 38) (b0 41) (b0 42) (b0 64) f1 f2 f3 f4 f5 f6 f7 f8 f9 f10 f11 f12 f13 f14 f15 f16 f17 = some o) (sz : Nat) : zMl l yX12_trials wsX12_trials ({ frames := 6, cells := 0, slots := 0, locals := 154 }) (dC, dI) vwCl [.ref h0, .int p1, .int p2] [(h0, .inr (12, zO a0 b0 c0)), zVi (a0 2) k1 5 f1, zVi (a0 17) k2 2 f2, zVi (a0 37) k3 14 f3, zVi (a0 39) k4 14 f4, zVi (a0 19) k5 28 f5, zVi (a0 20) k6 28 f6, zVi (a0 21) k7 28 f7, zVl (a0 31) k8 14 f8, zVl (a0 22) k9 28 f9, zVl (a0 23) k10 28 f10, zVl (a0 32) k11 14 f11, zVi (a0 14) k12 8 f12, zVl (a0 40) k13 14 f13, zVi (a0 15) k14 8 f14, zVi (a0 26) k15 28 f15, zVl (a0 65) k16 14 f16, zVl (a0 66) k17 14 f17] [(k1, .int), (k2, .int), (k3, .int), (k4, .int), (k5, .int), (k6, .int), (k7, .int), (k8, .long), (k9, .long), (k10, .long), (k11, .long), (k12, .int), (k13, .long), (k14, .int), (k15, .int), (k16, .long), (k17, .long)] (fun r _ => r = o.1) [(h0, .inr (12, zO a0 (zI (zI (zI (zI b0 33 o.2.1) 41 o.2.2.1) 42 o.2.2.2.1) 64 o.2.2.2.2.1) c0)), zVi (a0 2) k1 5 o.2.2.2.2.2.1, zVi (a0 17) k2 2 f2, zVi (a0 37) k3 14 f3, zVi (a0 39) k4 14 o.2.2.2.2.2.2.1, zVi (a0 19) k5 28 f5, zVi (a0 20) k6 28 f6, zVi (a0 21) k7 28 f7, zVl (a0 31) k8 14 o.2.2.2.2.2.2.2.1, zVl (a0 22) k9 28 f9, zVl (a0 23) k10 28 f10, zVl (a0 32) k11 14 o.2.2.2.2.2.2.2.2.1, zVi (a0 14) k12 8 f12, zVl (a0 40) k13 14 o.2.2.2.2.2.2.2.2.2.1, zVi (a0 15) k14 8 f14, zVi (a0 26) k15 28 f15, zVl (a0 65) k16 14 o.2.2.2.2.2.2.2.2.2.2.1, zVl (a0 66) k17 14 o.2.2.2.2.2.2.2.2.2.2.2] [(k1, .int), (k2, .int), (k3, .int), (k4, .int), (k5, .int), (k6, .int), (k7, .int), (k8, .long), (k9, .long), (k10, .long), (k11, .long), (k12, .int), (k13, .long), (k14, .int), (k15, .int), (k16, .long), (k17, .long)] sz := by
  refine zgol (cc := cX12_trials) (maxL := 6) (ret := (some .long)) (C0 := RX12) (lv0 := [(0, .ref h0), (1, .int p1), (2, .int p2)]) zpl_X12 rfl rfl rfl (Nat.le_of_ble_eq_true rfl) ?_
  intro p e s m below meth c A ls Q hx hb hr hts hown hlocks hml hP hK hD hA hS hl hQ
  unfold fn_X12_trials at hfn
  refine lv_iload_n hx hb dX12_trials_0 rfl (lv_at hl 1 rfl) ?_
  refine lv_i2l (v := p1.toInt64) hx hb dX12_trials_1 rfl ?_
  refine lv_lconst (v := 1) hx hb dX12_trials_2 (by decide +kernel) ?_
  refine lv_ldc2 (v := 40) hx hb hown (hts (.constantLong RX12 545 (40)) zw_X12_trials_1383) dX12_trials_3 ?_
  obtain ⟨o_1, hqo_1, hfn⟩ := zb_s hfn
  refine zcSb (rest := []) (pc' := 9) (ws' := [(h0, .inr (12, zO a0 b0 c0)), zVi (a0 2) k1 5 f1, zVi (a0 17) k2 2 f2, zVi (a0 37) k3 14 f3, zVi (a0 39) k4 14 f4, zVi (a0 19) k5 28 f5, zVi (a0 20) k6 28 f6, zVi (a0 21) k7 28 f7, zVl (a0 31) k8 14 f8, zVl (a0 22) k9 28 f9, zVl (a0 23) k10 28 f10, zVl (a0 32) k11 14 f11, zVi (a0 14) k12 8 f12, zVl (a0 40) k13 14 f13, zVi (a0 15) k14 8 f14, zVi (a0 26) k15 28 f15, zVl (a0 65) k16 14 f16, zVl (a0 66) k17 14 f17]) hP hK hD hS hA ⟨hx, hb, hml, hown, hts⟩ (zf_X12_isIn l dC dI p1.toInt64 (1 : Int64) (40 : Int64) o_1 hqo_1 s.heap.size) (va_cwS 3 hts gX12_trials_X12_isIn rfl rfl rfl zhd_X12_isIn.2 ⟨Nat.le_of_ble_eq_true rfl, Nat.le_of_ble_eq_true rfl⟩) [] rfl (of_decide_eq_true rfl) [] rfl rfl hl.1 rfl (Nat.le_of_ble_eq_true rfl) dX12_trials_6 ⟨Nat.le_of_ble_eq_true rfl, Nat.le_of_ble_eq_true rfl⟩ [] (of_decide_eq_true rfl) (of_decide_eq_true rfl) rfl rfl rfl (fun H locs hw_4n hP hD hS => ?_)
  refine lv_if_eq (tgt := 27) hx hb dX12_trials_9 (of_decide_eq_true rfl) (fun c_5 => ?_) (fun c_5 => ?_)
  · have hfn := (if_pos c_5).symm.trans hfn
    refine lv_aload_n hx hb dX12_trials_27 rfl (lv_at hl 0 rfl) ?_
    refine lv_iconst (v := 4) hx hb dX12_trials_28 zci_4 ?_
    obtain ⟨o_6, hqo_6, hfn⟩ := zb_s hfn
    refine zcVi (ci := 12) (rest := []) (pc' := 32) (ws' := [(h0, .inr (12, zO a0 b0 c0)), zVi (a0 2) k1 5 o_6.2, zVi (a0 17) k2 2 f2, zVi (a0 37) k3 14 f3, zVi (a0 39) k4 14 f4, zVi (a0 19) k5 28 f5, zVi (a0 20) k6 28 f6, zVi (a0 21) k7 28 f7, zVl (a0 31) k8 14 f8, zVl (a0 22) k9 28 f9, zVl (a0 23) k10 28 f10, zVl (a0 32) k11 14 f11, zVi (a0 14) k12 8 f12, zVl (a0 40) k13 14 f13, zVi (a0 15) k14 8 f14, zVi (a0 26) k15 28 f15, zVl (a0 65) k16 14 f16, zVl (a0 66) k17 14 f17]) hP hK hD hS hA ⟨hx, hb, hml, hown, hts⟩ (zf_X12_refuses l dC dI h0 4 a0 b0 c0 k1 f1 o_6 hqo_6 H.size) (cwV 1 hts gX12_trials_X12_refuses rfl rfl rfl zhd_X12_refuses ⟨Nat.le_of_ble_eq_true rfl, Nat.le_of_ble_eq_true rfl⟩) [0, 1] rfl (of_decide_eq_true rfl) [0] rfl rfl rfl rfl hl.1 rfl (Nat.le_of_ble_eq_true rfl) dX12_trials_29 ⟨Nat.le_of_ble_eq_true rfl, Nat.le_of_ble_eq_true rfl⟩ [some 0, some 1] (of_decide_eq_true rfl) (of_decide_eq_true rfl) rfl rfl rfl (fun H locs hP hD hS => ?_)
    refine lv_i2l (v := o_6.1.toInt64) hx hb dX12_trials_32 rfl ?_
    have ho := Option.some.inj hfn
    subst ho
    exact zrl hx hb hr hK hP hD hS hQ rfl hlocks dX12_trials_33
  have hfn := (if_neg c_5).symm.trans hfn
  refine lv_aload_n hx hb dX12_trials_12 rfl (lv_at hl 0 rfl) ?_
  refine lv_iload_n hx hb dX12_trials_13 rfl (lv_at hl 2 rfl) ?_
  obtain ⟨o_10, hqo_10, hfn⟩ := zb_s hfn
  refine zcVb (ci := 12) (rest := []) (pc' := 17) (ws' := [(h0, .inr (12, zO a0 b0 c0)), zVi (a0 2) k1 5 f1, zVi (a0 17) k2 2 f2, zVi (a0 37) k3 14 f3, zVi (a0 39) k4 14 f4, zVi (a0 19) k5 28 f5, zVi (a0 20) k6 28 f6, zVi (a0 21) k7 28 f7, zVl (a0 31) k8 14 f8, zVl (a0 22) k9 28 f9, zVl (a0 23) k10 28 f10, zVl (a0 32) k11 14 f11, zVi (a0 14) k12 8 f12, zVl (a0 40) k13 14 f13, zVi (a0 15) k14 8 f14, zVi (a0 26) k15 28 f15, zVl (a0 65) k16 14 f16, zVl (a0 66) k17 14 f17]) hP hK hD hS hA ⟨hx, hb, hml, hown, hts⟩ (zf_X12_isNumber l dC dI h0 p2 a0 b0 c0 k2 f2 o_10 hqo_10 H.size) (cwV 1 hts gX12_trials_X12_isNumber rfl rfl rfl zhd_X12_isNumber ⟨Nat.le_of_ble_eq_true rfl, Nat.le_of_ble_eq_true rfl⟩) [0, 2] rfl (of_decide_eq_true rfl) [1] rfl rfl rfl rfl hl.1 rfl (Nat.le_of_ble_eq_true rfl) dX12_trials_14 ⟨Nat.le_of_ble_eq_true rfl, Nat.le_of_ble_eq_true rfl⟩ [some 0, none, some 1] (of_decide_eq_true rfl) (of_decide_eq_true rfl) rfl rfl rfl (fun H locs hw_13n hP hD hS => ?_)
  refine lv_if_eq (tgt := 27) hx hb dX12_trials_17 (of_decide_eq_true rfl) (fun c_14 => ?_) (fun c_14 => ?_)
  · have hfn := (if_pos c_14).symm.trans hfn
    refine lv_aload_n hx hb dX12_trials_27 rfl (lv_at hl 0 rfl) ?_
    refine lv_iconst (v := 4) hx hb dX12_trials_28 zci_4 ?_
    obtain ⟨o_15, hqo_15, hfn⟩ := zb_s hfn
    refine zcVi (ci := 12) (rest := []) (pc' := 32) (ws' := [(h0, .inr (12, zO a0 b0 c0)), zVi (a0 2) k1 5 o_15.2, zVi (a0 17) k2 2 f2, zVi (a0 37) k3 14 f3, zVi (a0 39) k4 14 f4, zVi (a0 19) k5 28 f5, zVi (a0 20) k6 28 f6, zVi (a0 21) k7 28 f7, zVl (a0 31) k8 14 f8, zVl (a0 22) k9 28 f9, zVl (a0 23) k10 28 f10, zVl (a0 32) k11 14 f11, zVi (a0 14) k12 8 f12, zVl (a0 40) k13 14 f13, zVi (a0 15) k14 8 f14, zVi (a0 26) k15 28 f15, zVl (a0 65) k16 14 f16, zVl (a0 66) k17 14 f17]) hP hK hD hS hA ⟨hx, hb, hml, hown, hts⟩ (zf_X12_refuses l dC dI h0 4 a0 b0 c0 k1 f1 o_15 hqo_15 H.size) (cwV 1 hts gX12_trials_X12_refuses rfl rfl rfl zhd_X12_refuses ⟨Nat.le_of_ble_eq_true rfl, Nat.le_of_ble_eq_true rfl⟩) [0, 1] rfl (of_decide_eq_true rfl) [0] rfl rfl rfl rfl hl.1 rfl (Nat.le_of_ble_eq_true rfl) dX12_trials_29 ⟨Nat.le_of_ble_eq_true rfl, Nat.le_of_ble_eq_true rfl⟩ [some 0, some 1] (of_decide_eq_true rfl) (of_decide_eq_true rfl) rfl rfl rfl (fun H locs hP hD hS => ?_)
    refine lv_i2l (v := o_15.1.toInt64) hx hb dX12_trials_32 rfl ?_
    have ho := Option.some.inj hfn
    subst ho
    exact zrl hx hb hr hK hP hD hS hQ rfl hlocks dX12_trials_33
  have hfn := (if_neg c_14).symm.trans hfn
  refine lv_aload_n hx hb dX12_trials_20 rfl (lv_at hl 0 rfl) ?_
  obtain ⟨o_19, hqo_19, hfn⟩ := zb_s hfn
  refine zcVb (ci := 12) (rest := []) (pc' := 24) (ws' := [(h0, .inr (12, zO a0 (zI (zI (zI b0 33 o_19.2.1) 41 o_19.2.2.1) 42 o_19.2.2.2.1) c0)), zVi (a0 2) k1 5 f1, zVi (a0 17) k2 2 f2, zVi (a0 37) k3 14 f3, zVi (a0 39) k4 14 o_19.2.2.2.2.1, zVi (a0 19) k5 28 f5, zVi (a0 20) k6 28 f6, zVi (a0 21) k7 28 f7, zVl (a0 31) k8 14 o_19.2.2.2.2.2.1, zVl (a0 22) k9 28 f9, zVl (a0 23) k10 28 f10, zVl (a0 32) k11 14 o_19.2.2.2.2.2.2.1, zVi (a0 14) k12 8 f12, zVl (a0 40) k13 14 o_19.2.2.2.2.2.2.2, zVi (a0 15) k14 8 f14, zVi (a0 26) k15 28 f15, zVl (a0 65) k16 14 f16, zVl (a0 66) k17 14 f17]) hP hK hD hS hA ⟨hx, hb, hml, hown, hts⟩ (zf_X12_handPasses l dC dI h0 a0 b0 c0 k2 f2 k3 f3 k4 f4 k5 f5 k6 f6 k7 f7 k8 f8 k9 f9 k10 f10 k11 f11 k12 f12 k13 f13 k14 f14 k15 f15 o_19 hqo_19 H.size) (cwV 0 hts gX12_trials_X12_handPasses rfl rfl rfl zhd_X12_handPasses ⟨Nat.le_of_ble_eq_true rfl, Nat.le_of_ble_eq_true rfl⟩) [0, 2, 3, 4, 5, 6, 7, 8, 9, 10, 11, 12, 13, 14, 15] rfl (of_decide_eq_true rfl) [1, 2, 3, 4, 5, 6, 7, 8, 9, 10, 11, 12, 13, 14] rfl rfl rfl rfl hl.1 rfl (Nat.le_of_ble_eq_true rfl) dX12_trials_21 ⟨Nat.le_of_ble_eq_true rfl, Nat.le_of_ble_eq_true rfl⟩ [some 0, none, some 1, some 2, some 3, some 4, some 5, some 6, some 7, some 8, some 9, some 10, some 11, some 12, some 13, some 14] (of_decide_eq_true rfl) (of_decide_eq_true rfl) rfl rfl rfl (fun H locs hw_22n hP hD hS => ?_)
  refine lv_if_ne (tgt := 34) hx hb dX12_trials_24 (of_decide_eq_true rfl) (fun c_23 => ?_) (fun c_23 => ?_)
  · have hfn := (if_neg c_23).symm.trans hfn
    refine lv_lconst (v := 0) hx hb dX12_trials_34 (by decide +kernel) ?_
    refine lv_lstore_n (lv' := [(3, .long 0), (0, .ref h0), (1, .int p1), (2, .int p2)]) hx hb dX12_trials_35 rfl hl (of_decide_eq_true rfl) rfl (fun ls hl => ?_)
    refine lv_iconst (v := 0) hx hb dX12_trials_36 zci_0 ?_
    refine lv_istore (lv' := [(5, .int 0), (3, .long 0), (0, .ref h0), (1, .int p1), (2, .int p2)]) hx hb dX12_trials_37 hl (of_decide_eq_true rfl) rfl (fun ls hl => ?_)
    obtain ⟨bd_24, ebd_24, hfn⟩ := zl_g hfn
    have lp_24 : ∀ (n : Nat) (s_24 : Int64 × Int32 × Int32 × (Nat → Int64) × (Nat → Int64)) (H : Heap) (locs : List Loc) (ls : Array Slot), zl bd_24 n s_24 = some o → va_P (dC, dI) vwCl [(h0, .inr (12, zO a0 (zI (zI (zI (zI b0 33 o_19.2.1) 41 o_19.2.2.1) 42 o_19.2.2.2.1) 64 s_24.2.2.1) c0)), zVi (a0 2) k1 5 f1, zVi (a0 17) k2 2 f2, zVi (a0 37) k3 14 f3, zVi (a0 39) k4 14 o_19.2.2.2.2.1, zVi (a0 19) k5 28 f5, zVi (a0 20) k6 28 f6, zVi (a0 21) k7 28 f7, zVl (a0 31) k8 14 o_19.2.2.2.2.2.1, zVl (a0 22) k9 28 f9, zVl (a0 23) k10 28 f10, zVl (a0 32) k11 14 o_19.2.2.2.2.2.2.1, zVi (a0 14) k12 8 f12, zVl (a0 40) k13 14 o_19.2.2.2.2.2.2.2, zVi (a0 15) k14 8 f14, zVi (a0 26) k15 28 f15, zVl (a0 65) k16 14 s_24.2.2.2.1, zVl (a0 66) k17 14 s_24.2.2.2.2] H → va_D A [(h0, .inr (12, zO a0 (zI (zI (zI (zI b0 33 o_19.2.1) 41 o_19.2.2.1) 42 o_19.2.2.2.1) 64 s_24.2.2.1) c0)), zVi (a0 2) k1 5 f1, zVi (a0 17) k2 2 f2, zVi (a0 37) k3 14 f3, zVi (a0 39) k4 14 o_19.2.2.2.2.1, zVi (a0 19) k5 28 f5, zVi (a0 20) k6 28 f6, zVi (a0 21) k7 28 f7, zVl (a0 31) k8 14 o_19.2.2.2.2.2.1, zVl (a0 22) k9 28 f9, zVl (a0 23) k10 28 f10, zVl (a0 32) k11 14 o_19.2.2.2.2.2.2.1, zVi (a0 14) k12 8 f12, zVl (a0 40) k13 14 o_19.2.2.2.2.2.2.2, zVi (a0 15) k14 8 f14, zVi (a0 26) k15 28 f15, zVl (a0 65) k16 14 s_24.2.2.2.1, zVl (a0 66) k17 14 s_24.2.2.2.2] → va_S A s.heap H locs → lv_has ls 6 [(5, .int s_24.2.1), (3, .long s_24.1), (0, .ref h0), (1, .int p1), (2, .int p2)] → W p l e (headSpec wsX12_trials ({ frames := 6, cells := 0, slots := 0, locals := 154 })).room s m ([.ref h0, .int p1, .int p2] : List Value).toArray below meth c H locs 0 0 Q (F0 m 39 ls []) := by
      intro n
      induction n with
      | zero => exact fun _ _ _ _ hfn => (zl_0 hfn).elim
      | succ n ih_24 =>
        intro s_24 H locs ls hfn hP hD hS hl
        have hfn := zl_s ebd_24 hfn
        refine lv_iload hx hb dX12_trials_39 (lv_at hl 0 rfl) ?_
        refine lv_iload_n hx hb dX12_trials_41 rfl (lv_at hl 3 rfl) ?_
        refine lv_icmp_ge (tgt := 76) hx hb dX12_trials_42 (of_decide_eq_true rfl) (fun c_25 => ?_) (fun c_25 => ?_)
        · have hfn := (if_pos c_25).symm.trans hfn
          refine lv_lload_n hx hb dX12_trials_76 rfl (lv_at hl 1 rfl) ?_
          have ho := Option.some.inj hfn
          subst ho
          exact zrl hx hb hr hK hP hD hS hQ rfl hlocks dX12_trials_77
        have hfn := (if_neg c_25).symm.trans hfn
        refine lv_aload_n hx hb dX12_trials_45 rfl (lv_at hl 2 rfl) ?_
        obtain ⟨o_26, hqo_26, hfn⟩ := zb_s hfn
        refine zcVv (ci := 12) (rest := []) (pc' := 49) (ws' := [(h0, .inr (12, zO a0 (zI (zI (zI (zI b0 33 o_19.2.1) 41 o_19.2.2.1) 42 o_19.2.2.2.1) 64 o_26.1) c0)), zVi (a0 2) k1 5 f1, zVi (a0 17) k2 2 f2, zVi (a0 37) k3 14 f3, zVi (a0 39) k4 14 o_19.2.2.2.2.1, zVi (a0 19) k5 28 f5, zVi (a0 20) k6 28 f6, zVi (a0 21) k7 28 f7, zVl (a0 31) k8 14 o_19.2.2.2.2.2.1, zVl (a0 22) k9 28 f9, zVl (a0 23) k10 28 f10, zVl (a0 32) k11 14 o_19.2.2.2.2.2.2.1, zVi (a0 14) k12 8 f12, zVl (a0 40) k13 14 o_19.2.2.2.2.2.2.2, zVi (a0 15) k14 8 f14, zVi (a0 26) k15 28 f15, zVl (a0 65) k16 14 o_26.2.1, zVl (a0 66) k17 14 o_26.2.2]) hP hK hD hS hA ⟨hx, hb, hml, hown, hts⟩ (zf_X12_triesOnce l dC dI h0 a0 (zI (zI (zI (zI b0 33 o_19.2.1) 41 o_19.2.2.1) 42 o_19.2.2.2.1) 64 s_24.2.2.1) c0 k2 f2 k3 f3 k12 f12 k5 f5 k6 f6 k7 f7 k16 s_24.2.2.2.1 k9 f9 k10 f10 k17 s_24.2.2.2.2 o_26 hqo_26 H.size) (cwV 0 hts gX12_trials_X12_triesOnce rfl rfl rfl zhd_X12_triesOnce ⟨Nat.le_of_ble_eq_true rfl, Nat.le_of_ble_eq_true rfl⟩) [0, 2, 3, 12, 5, 6, 7, 16, 9, 10, 17] rfl (of_decide_eq_true rfl) [1, 2, 11, 4, 5, 6, 15, 8, 9, 16] rfl rfl rfl rfl hl.1 rfl (Nat.le_of_ble_eq_true rfl) dX12_trials_46 ⟨Nat.le_of_ble_eq_true rfl, Nat.le_of_ble_eq_true rfl⟩ [some 0, none, some 1, some 2, none, some 4, some 5, some 6, none, some 8, some 9, none, some 3, none, none, none, some 7, some 10] (of_decide_eq_true rfl) (of_decide_eq_true rfl) rfl rfl rfl (fun H locs hP hD hS => ?_)
        refine lv_lload_n hx hb dX12_trials_49 rfl (lv_at hl 1 rfl) ?_
        refine lv_aload_n hx hb dX12_trials_50 rfl (lv_at hl 2 rfl) ?_
        refine va_get (D := (dC, dI)) (ci := 12) (v := .ref (a0 66)) (C := RX12) (T := TX12) (N := 67) hx hb hts zn_X12_trials_X12 hown hK hP 0 rfl rfl 66 (of_decide_eq_true rfl) (hts (.fieldLink RX12 213 "ShortEnoughModel" "keptAs" "[J") zw_X12_trials_1385) (fun _ h9 => h9) rfl dX12_trials_51 ?_
        refine lv_iload_n hx hb dX12_trials_54 rfl (lv_at hl 4 rfl) ?_
        obtain ⟨h_30, hfn⟩ := zg_s hfn
        refine va_lald hx hb hK hP 17 16 rfl rfl h_30 dX12_trials_55 ?_
        refine lv_aload_n hx hb dX12_trials_56 rfl (lv_at hl 2 rfl) ?_
        refine va_get (D := (dC, dI)) (ci := 12) (v := .ref (a0 65)) (C := RX12) (T := TX12) (N := 67) hx hb hts zn_X12_trials_X12 hown hK hP 0 rfl rfl 65 (of_decide_eq_true rfl) (hts (.fieldLink RX12 210 "ShortEnoughModel" "exact" "[J") zw_X12_trials_1386) (fun _ h9 => h9) rfl dX12_trials_57 ?_
        refine lv_iload_n hx hb dX12_trials_60 rfl (lv_at hl 4 rfl) ?_
        refine va_lald hx hb hK hP 16 15 rfl rfl h_30 dX12_trials_61 ?_
        refine lv_lsub hx hb dX12_trials_62 ?_
        obtain ⟨o_31, hqo_31, hfn⟩ := zb_s hfn
        refine zcSl (rest := [.long s_24.1]) (pc' := 66) (ws' := [(h0, .inr (12, zO a0 (zI (zI (zI (zI b0 33 o_19.2.1) 41 o_19.2.2.1) 42 o_19.2.2.2.1) 64 o_26.1) c0)), zVi (a0 2) k1 5 f1, zVi (a0 17) k2 2 f2, zVi (a0 37) k3 14 f3, zVi (a0 39) k4 14 o_19.2.2.2.2.1, zVi (a0 19) k5 28 f5, zVi (a0 20) k6 28 f6, zVi (a0 21) k7 28 f7, zVl (a0 31) k8 14 o_19.2.2.2.2.2.1, zVl (a0 22) k9 28 f9, zVl (a0 23) k10 28 f10, zVl (a0 32) k11 14 o_19.2.2.2.2.2.2.1, zVi (a0 14) k12 8 f12, zVl (a0 40) k13 14 o_19.2.2.2.2.2.2.2, zVi (a0 15) k14 8 f14, zVi (a0 26) k15 28 f15, zVl (a0 65) k16 14 o_26.2.1, zVl (a0 66) k17 14 o_26.2.2]) hP hK hD hS hA ⟨hx, hb, hml, hown, hts⟩ (zf_X12_amount l dC dI ((o_26.2.2 p2.toNatClampNeg) - (o_26.2.1 p2.toNatClampNeg)) o_31 hqo_31 H.size) (va_cwS 1 hts gX12_trials_X12_amount rfl rfl rfl zhd_X12_amount.2 ⟨Nat.le_of_ble_eq_true rfl, Nat.le_of_ble_eq_true rfl⟩) [] rfl (of_decide_eq_true rfl) [] rfl rfl hl.1 rfl (Nat.le_of_ble_eq_true rfl) dX12_trials_63 ⟨Nat.le_of_ble_eq_true rfl, Nat.le_of_ble_eq_true rfl⟩ [] (of_decide_eq_true rfl) (of_decide_eq_true rfl) rfl rfl rfl (fun H locs hP hD hS => ?_)
        obtain ⟨o_35, hqo_35, hfn⟩ := zb_s hfn
        refine zcSl (rest := []) (pc' := 69) (ws' := [(h0, .inr (12, zO a0 (zI (zI (zI (zI b0 33 o_19.2.1) 41 o_19.2.2.1) 42 o_19.2.2.2.1) 64 o_26.1) c0)), zVi (a0 2) k1 5 f1, zVi (a0 17) k2 2 f2, zVi (a0 37) k3 14 f3, zVi (a0 39) k4 14 o_19.2.2.2.2.1, zVi (a0 19) k5 28 f5, zVi (a0 20) k6 28 f6, zVi (a0 21) k7 28 f7, zVl (a0 31) k8 14 o_19.2.2.2.2.2.1, zVl (a0 22) k9 28 f9, zVl (a0 23) k10 28 f10, zVl (a0 32) k11 14 o_19.2.2.2.2.2.2.1, zVi (a0 14) k12 8 f12, zVl (a0 40) k13 14 o_19.2.2.2.2.2.2.2, zVi (a0 15) k14 8 f14, zVi (a0 26) k15 28 f15, zVl (a0 65) k16 14 o_26.2.1, zVl (a0 66) k17 14 o_26.2.2]) hP hK hD hS hA ⟨hx, hb, hml, hown, hts⟩ (zf_X12_greater l dC dI s_24.1 o_31 o_35 hqo_35 H.size) (va_cwS 2 hts gX12_trials_X12_greater rfl rfl rfl zhd_X12_greater.2 ⟨Nat.le_of_ble_eq_true rfl, Nat.le_of_ble_eq_true rfl⟩) [] rfl (of_decide_eq_true rfl) [] rfl rfl hl.1 rfl (Nat.le_of_ble_eq_true rfl) dX12_trials_66 ⟨Nat.le_of_ble_eq_true rfl, Nat.le_of_ble_eq_true rfl⟩ [] (of_decide_eq_true rfl) (of_decide_eq_true rfl) rfl rfl rfl (fun H locs hP hD hS => ?_)
        refine lv_lstore_n (lv' := [(3, .long o_35), (5, .int s_24.2.1), (0, .ref h0), (1, .int p1), (2, .int p2)]) hx hb dX12_trials_69 rfl hl (of_decide_eq_true rfl) rfl (fun ls hl => ?_)
        refine lv_iinc (v := (s_24.2.1 + 1)) (lv' := [(5, .int (s_24.2.1 + 1)), (3, .long o_35), (0, .ref h0), (1, .int p1), (2, .int p2)]) hx hb dX12_trials_70 hl (k := 1) rfl rfl (of_decide_eq_true rfl) rfl (fun ls hl => ?_)
        refine lv_goto (tgt := 39) hx hb dX12_trials_73 (of_decide_eq_true rfl) ?_
        exact ih_24 (o_35, (s_24.2.1 + 1), o_26.1, o_26.2.1, o_26.2.2) H locs ls hfn hP hD hS (lv_sub hl [0, 1, 2, 3, 4] rfl)
    exact lp_24 _ (0, 0, (b0 64), f16, f17) H locs ls hfn hP hD hS (lv_sub hl [0, 1, 2, 3, 4] rfl)
  have hfn := (if_pos c_23).symm.trans hfn
  refine lv_aload_n hx hb dX12_trials_27 rfl (lv_at hl 0 rfl) ?_
  refine lv_iconst (v := 4) hx hb dX12_trials_28 zci_4 ?_
  obtain ⟨o_39, hqo_39, hfn⟩ := zb_s hfn
  refine zcVi (ci := 12) (rest := []) (pc' := 32) (ws' := [(h0, .inr (12, zO a0 (zI (zI (zI b0 33 o_19.2.1) 41 o_19.2.2.1) 42 o_19.2.2.2.1) c0)), zVi (a0 2) k1 5 o_39.2, zVi (a0 17) k2 2 f2, zVi (a0 37) k3 14 f3, zVi (a0 39) k4 14 o_19.2.2.2.2.1, zVi (a0 19) k5 28 f5, zVi (a0 20) k6 28 f6, zVi (a0 21) k7 28 f7, zVl (a0 31) k8 14 o_19.2.2.2.2.2.1, zVl (a0 22) k9 28 f9, zVl (a0 23) k10 28 f10, zVl (a0 32) k11 14 o_19.2.2.2.2.2.2.1, zVi (a0 14) k12 8 f12, zVl (a0 40) k13 14 o_19.2.2.2.2.2.2.2, zVi (a0 15) k14 8 f14, zVi (a0 26) k15 28 f15, zVl (a0 65) k16 14 f16, zVl (a0 66) k17 14 f17]) hP hK hD hS hA ⟨hx, hb, hml, hown, hts⟩ (zf_X12_refuses l dC dI h0 4 a0 (zI (zI (zI b0 33 o_19.2.1) 41 o_19.2.2.1) 42 o_19.2.2.2.1) c0 k1 f1 o_39 hqo_39 H.size) (cwV 1 hts gX12_trials_X12_refuses rfl rfl rfl zhd_X12_refuses ⟨Nat.le_of_ble_eq_true rfl, Nat.le_of_ble_eq_true rfl⟩) [0, 1] rfl (of_decide_eq_true rfl) [0] rfl rfl rfl rfl hl.1 rfl (Nat.le_of_ble_eq_true rfl) dX12_trials_29 ⟨Nat.le_of_ble_eq_true rfl, Nat.le_of_ble_eq_true rfl⟩ [some 0, some 1] (of_decide_eq_true rfl) (of_decide_eq_true rfl) rfl rfl rfl (fun H locs hP hD hS => ?_)
  refine lv_i2l (v := o_39.1.toInt64) hx hb dX12_trials_32 rfl ?_
  have ho := Option.some.inj hfn
  subst ho
  exact zrl hx hb hr hK hP hD hS hQ rfl hlocks dX12_trials_33
theorem zw_X12_trial_1387 : Cond.constantLong RX12 381 (-1000000000000000) ∈ wsX12_trial := List.mem_of_getElem? (i := 1) (by decide +kernel)
theorem zn_X12_trial_X12 : ∀ w ∈ wsX120, w ∈ wsX12_trial := fun _ h => List.mem_cons_of_mem _ (List.mem_append_right _ h)
theorem zw_X12_trial_1389 : Cond.fieldLink RX12 207 "ShortEnoughModel" "seedNow" "I" ∈ wsX12_trial := List.mem_of_getElem? (i := 2) (by decide +kernel)
theorem zw_X12_trial_1390 : Cond.fieldLink RX12 210 "ShortEnoughModel" "exact" "[J" ∈ wsX12_trial := List.mem_of_getElem? (i := 4) (by decide +kernel)
theorem zw_X12_trial_1391 : Cond.fieldLink RX12 213 "ShortEnoughModel" "keptAs" "[J" ∈ wsX12_trial := List.mem_of_getElem? (i := 3) (by decide +kernel)
set_option maxHeartbeats 4000000 in
set_option maxRecDepth 100000 in
theorem zf_X12_trial (l : Launch) (dC : Nat → ClassId) (dI : Nat → Nat → Nat) (h0 : Nat) (p1 : Int32) (p2 : Int32) (a0 : Nat → Nat) (b0 : Nat → Int32) (c0 : Nat → Int64) (k1 : Nat) (f1 : Nat → Int32) (k2 : Nat) (f2 : Nat → Int32) (k3 : Nat) (f3 : Nat → Int32) (k4 : Nat) (f4 : Nat → Int32) (k5 : Nat) (f5 : Nat → Int32) (k6 : Nat) (f6 : Nat → Int32) (k7 : Nat) (f7 : Nat → Int64) (k8 : Nat) (f8 : Nat → Int64) (k9 : Nat) (f9 : Nat → Int64) (k10 : Nat) (f10 : Nat → Int64) (k11 : Nat) (f11 : Nat → Int32) (k12 : Nat) (f12 : Nat → Int64) (k13 : Nat) (f13 : Nat → Int32) (k14 : Nat) (f14 : Nat → Int32) (k15 : Nat) (f15 : Nat → Int64) (k16 : Nat) (f16 : Nat → Int64) (o : Int64 × Int32 × Int32 × Int32 × Int32 × (Nat → Int32) × (Nat → Int64) × (Nat → Int64) × (Nat → Int64) × (Nat → Int64) × (Nat → Int64)) (hfn : fn_X12_trial p1 p2 (b0 33) (c0 34) (b0 38) (b0 41) (b0 42) (b0 64) f1 f2 f3 f4 f5 f6 f7 f8 f9 f10 f11 f12 f13 f14 f15 f16 = some o) (sz : Nat) : zMl l yX12_trial wsX12_trial ({ frames := 6, cells := 0, slots := 0, locals := 154 }) (dC, dI) vwCl [.ref h0, .int p1, .int p2] [(h0, .inr (12, zO a0 b0 c0)), zVi (a0 17) k1 2 f1, zVi (a0 37) k2 14 f2, zVi (a0 39) k3 14 f3, zVi (a0 19) k4 28 f4, zVi (a0 20) k5 28 f5, zVi (a0 21) k6 28 f6, zVl (a0 31) k7 14 f7, zVl (a0 22) k8 28 f8, zVl (a0 23) k9 28 f9, zVl (a0 32) k10 14 f10, zVi (a0 14) k11 8 f11, zVl (a0 40) k12 14 f12, zVi (a0 15) k13 8 f13, zVi (a0 26) k14 28 f14, zVl (a0 65) k15 14 f15, zVl (a0 66) k16 14 f16] [(k1, .int), (k2, .int), (k3, .int), (k4, .int), (k5, .int), (k6, .int), (k7, .long), (k8, .long), (k9, .long), (k10, .long), (k11, .int), (k12, .long), (k13, .int), (k14, .int), (k15, .long), (k16, .long)] (fun r _ => r = o.1) [(h0, .inr (12, zO a0 (zI (zI (zI (zI b0 33 o.2.1) 41 o.2.2.1) 42 o.2.2.2.1) 64 o.2.2.2.2.1) c0)), zVi (a0 17) k1 2 f1, zVi (a0 37) k2 14 f2, zVi (a0 39) k3 14 o.2.2.2.2.2.1, zVi (a0 19) k4 28 f4, zVi (a0 20) k5 28 f5, zVi (a0 21) k6 28 f6, zVl (a0 31) k7 14 o.2.2.2.2.2.2.1, zVl (a0 22) k8 28 f8, zVl (a0 23) k9 28 f9, zVl (a0 32) k10 14 o.2.2.2.2.2.2.2.1, zVi (a0 14) k11 8 f11, zVl (a0 40) k12 14 o.2.2.2.2.2.2.2.2.1, zVi (a0 15) k13 8 f13, zVi (a0 26) k14 28 f14, zVl (a0 65) k15 14 o.2.2.2.2.2.2.2.2.2.1, zVl (a0 66) k16 14 o.2.2.2.2.2.2.2.2.2.2] [(k1, .int), (k2, .int), (k3, .int), (k4, .int), (k5, .int), (k6, .int), (k7, .long), (k8, .long), (k9, .long), (k10, .long), (k11, .int), (k12, .long), (k13, .int), (k14, .int), (k15, .long), (k16, .long)] sz := by
  refine zgol (cc := cX12_trial) (maxL := 4) (ret := (some .long)) (C0 := RX12) (lv0 := [(0, .ref h0), (1, .int p1), (2, .int p2)]) zpl_X12 rfl rfl rfl (Nat.le_of_ble_eq_true rfl) ?_
  intro p e s m below meth c A ls Q hx hb hr hts hown hlocks hml hP hK hD hA hS hl hQ
  unfold fn_X12_trial at hfn
  refine lv_aload_n hx hb dX12_trial_0 rfl (lv_at hl 0 rfl) ?_
  refine lv_iload_n hx hb dX12_trial_1 rfl (lv_at hl 1 rfl) ?_
  obtain ⟨o_1, hqo_1, hfn⟩ := zb_s hfn
  refine zcVb (ci := 12) (rest := []) (pc' := 5) (ws' := [(h0, .inr (12, zO a0 b0 c0)), zVi (a0 17) k1 2 f1, zVi (a0 37) k2 14 f2, zVi (a0 39) k3 14 f3, zVi (a0 19) k4 28 f4, zVi (a0 20) k5 28 f5, zVi (a0 21) k6 28 f6, zVl (a0 31) k7 14 f7, zVl (a0 22) k8 28 f8, zVl (a0 23) k9 28 f9, zVl (a0 32) k10 14 f10, zVi (a0 14) k11 8 f11, zVl (a0 40) k12 14 f12, zVi (a0 15) k13 8 f13, zVi (a0 26) k14 28 f14, zVl (a0 65) k15 14 f15, zVl (a0 66) k16 14 f16]) hP hK hD hS hA ⟨hx, hb, hml, hown, hts⟩ (zf_X12_isNumber l dC dI h0 p1 a0 b0 c0 k1 f1 o_1 hqo_1 s.heap.size) (cwV 1 hts gX12_trial_X12_isNumber rfl rfl rfl zhd_X12_isNumber ⟨Nat.le_of_ble_eq_true rfl, Nat.le_of_ble_eq_true rfl⟩) [0, 1] rfl (of_decide_eq_true rfl) [0] rfl rfl rfl rfl hl.1 rfl (Nat.le_of_ble_eq_true rfl) dX12_trial_2 ⟨Nat.le_of_ble_eq_true rfl, Nat.le_of_ble_eq_true rfl⟩ [some 0, some 1] (of_decide_eq_true rfl) (of_decide_eq_true rfl) rfl rfl rfl (fun H locs hw_4n hP hD hS => ?_)
  refine lv_if_eq (tgt := 15) hx hb dX12_trial_5 (of_decide_eq_true rfl) (fun c_5 => ?_) (fun c_5 => ?_)
  · have hfn := (if_pos c_5).symm.trans hfn
    refine lv_ldc2 (v := (-1000000000000000)) hx hb hown (hts (.constantLong RX12 381 (-1000000000000000)) zw_X12_trial_1387) dX12_trial_15 ?_
    have ho := Option.some.inj hfn
    subst ho
    exact zrl hx hb hr hK hP hD hS hQ rfl hlocks dX12_trial_18
  have hfn := (if_neg c_5).symm.trans hfn
  refine lv_aload_n hx hb dX12_trial_8 rfl (lv_at hl 0 rfl) ?_
  obtain ⟨o_6, hqo_6, hfn⟩ := zb_s hfn
  refine zcVb (ci := 12) (rest := []) (pc' := 12) (ws' := [(h0, .inr (12, zO a0 (zI (zI (zI b0 33 o_6.2.1) 41 o_6.2.2.1) 42 o_6.2.2.2.1) c0)), zVi (a0 17) k1 2 f1, zVi (a0 37) k2 14 f2, zVi (a0 39) k3 14 o_6.2.2.2.2.1, zVi (a0 19) k4 28 f4, zVi (a0 20) k5 28 f5, zVi (a0 21) k6 28 f6, zVl (a0 31) k7 14 o_6.2.2.2.2.2.1, zVl (a0 22) k8 28 f8, zVl (a0 23) k9 28 f9, zVl (a0 32) k10 14 o_6.2.2.2.2.2.2.1, zVi (a0 14) k11 8 f11, zVl (a0 40) k12 14 o_6.2.2.2.2.2.2.2, zVi (a0 15) k13 8 f13, zVi (a0 26) k14 28 f14, zVl (a0 65) k15 14 f15, zVl (a0 66) k16 14 f16]) hP hK hD hS hA ⟨hx, hb, hml, hown, hts⟩ (zf_X12_handPasses l dC dI h0 a0 b0 c0 k1 f1 k2 f2 k3 f3 k4 f4 k5 f5 k6 f6 k7 f7 k8 f8 k9 f9 k10 f10 k11 f11 k12 f12 k13 f13 k14 f14 o_6 hqo_6 H.size) (cwV 0 hts gX12_trial_X12_handPasses rfl rfl rfl zhd_X12_handPasses ⟨Nat.le_of_ble_eq_true rfl, Nat.le_of_ble_eq_true rfl⟩) [0, 1, 2, 3, 4, 5, 6, 7, 8, 9, 10, 11, 12, 13, 14] rfl (of_decide_eq_true rfl) [0, 1, 2, 3, 4, 5, 6, 7, 8, 9, 10, 11, 12, 13] rfl rfl rfl rfl hl.1 rfl (Nat.le_of_ble_eq_true rfl) dX12_trial_9 ⟨Nat.le_of_ble_eq_true rfl, Nat.le_of_ble_eq_true rfl⟩ [some 0, some 1, some 2, some 3, some 4, some 5, some 6, some 7, some 8, some 9, some 10, some 11, some 12, some 13, some 14] (of_decide_eq_true rfl) (of_decide_eq_true rfl) rfl rfl rfl (fun H locs hw_9n hP hD hS => ?_)
  refine lv_if_ne (tgt := 19) hx hb dX12_trial_12 (of_decide_eq_true rfl) (fun c_10 => ?_) (fun c_10 => ?_)
  · have hfn := (if_neg c_10).symm.trans hfn
    refine lv_aload_n hx hb dX12_trial_19 rfl (lv_at hl 0 rfl) ?_
    refine va_get (D := (dC, dI)) (ci := 12) (v := .int (b0 64)) (C := RX12) (T := TX12) (N := 67) hx hb hts zn_X12_trial_X12 hown hK hP 0 rfl rfl 64 (of_decide_eq_true rfl) (hts (.fieldLink RX12 207 "ShortEnoughModel" "seedNow" "I") zw_X12_trial_1389) (fun _ h9 => h9) rfl dX12_trial_20 ?_
    refine lv_istore_n (lv' := [(3, .int (b0 64)), (0, .ref h0), (1, .int p1), (2, .int p2)]) hx hb dX12_trial_23 rfl hl (of_decide_eq_true rfl) rfl (fun ls hl => ?_)
    refine lv_aload_n hx hb dX12_trial_24 rfl (lv_at hl 1 rfl) ?_
    obtain ⟨o_11, hqo_11, hfn⟩ := zb_s hfn
    refine zcVv (ci := 12) (rest := []) (pc' := 28) (ws' := [(h0, .inr (12, zO a0 (zI (zI (zI (zI b0 33 o_6.2.1) 41 o_6.2.2.1) 42 o_6.2.2.2.1) 64 o_11.1) c0)), zVi (a0 17) k1 2 f1, zVi (a0 37) k2 14 f2, zVi (a0 39) k3 14 o_6.2.2.2.2.1, zVi (a0 19) k4 28 f4, zVi (a0 20) k5 28 f5, zVi (a0 21) k6 28 f6, zVl (a0 31) k7 14 o_6.2.2.2.2.2.1, zVl (a0 22) k8 28 f8, zVl (a0 23) k9 28 f9, zVl (a0 32) k10 14 o_6.2.2.2.2.2.2.1, zVi (a0 14) k11 8 f11, zVl (a0 40) k12 14 o_6.2.2.2.2.2.2.2, zVi (a0 15) k13 8 f13, zVi (a0 26) k14 28 f14, zVl (a0 65) k15 14 o_11.2.1, zVl (a0 66) k16 14 o_11.2.2]) hP hK hD hS hA ⟨hx, hb, hml, hown, hts⟩ (zf_X12_triesOnce l dC dI h0 a0 (zI (zI (zI b0 33 o_6.2.1) 41 o_6.2.2.1) 42 o_6.2.2.2.1) c0 k1 f1 k2 f2 k11 f11 k4 f4 k5 f5 k6 f6 k15 f15 k8 f8 k9 f9 k16 f16 o_11 hqo_11 H.size) (cwV 0 hts gX12_trial_X12_triesOnce rfl rfl rfl zhd_X12_triesOnce ⟨Nat.le_of_ble_eq_true rfl, Nat.le_of_ble_eq_true rfl⟩) [0, 1, 2, 11, 4, 5, 6, 15, 8, 9, 16] rfl (of_decide_eq_true rfl) [0, 1, 10, 3, 4, 5, 14, 7, 8, 15] rfl rfl rfl rfl hl.1 rfl (Nat.le_of_ble_eq_true rfl) dX12_trial_25 ⟨Nat.le_of_ble_eq_true rfl, Nat.le_of_ble_eq_true rfl⟩ [some 0, some 1, some 2, none, some 4, some 5, some 6, none, some 8, some 9, none, some 3, none, none, none, some 7, some 10] (of_decide_eq_true rfl) (of_decide_eq_true rfl) rfl rfl rfl (fun H locs hP hD hS => ?_)
    refine lv_aload_n hx hb dX12_trial_28 rfl (lv_at hl 1 rfl) ?_
    refine lv_iload_n hx hb dX12_trial_29 rfl (lv_at hl 0 rfl) ?_
    refine va_put (D := (dC, dI)) (ci := 12) (v := .int (b0 64)) (ty := .int) (C := RX12) (T := TX12) (N := 67) hx hb hts zn_X12_trial_X12 tyX12 tyX12_ok nmX12 hown hK hP hD hS 0 rfl rfl 64 (of_decide_eq_true rfl) (hts (.fieldLink RX12 207 "ShortEnoughModel" "seedNow" "I") zw_X12_trial_1389) (fun _ h9 => h9) rfl (tyX12_ok 64 (of_decide_eq_true rfl)) rfl rfl (Nat.le_of_ble_eq_true rfl) dX12_trial_30 (fun H locs hP hD hS => ?_)
    have hP : va_P (dC, dI) vwCl [(h0, .inr (12, zO a0 (zI (zI (zI b0 33 o_6.2.1) 41 o_6.2.2.1) 42 o_6.2.2.2.1) c0)), zVi (a0 17) k1 2 f1, zVi (a0 37) k2 14 f2, zVi (a0 39) k3 14 o_6.2.2.2.2.1, zVi (a0 19) k4 28 f4, zVi (a0 20) k5 28 f5, zVi (a0 21) k6 28 f6, zVl (a0 31) k7 14 o_6.2.2.2.2.2.1, zVl (a0 22) k8 28 f8, zVl (a0 23) k9 28 f9, zVl (a0 32) k10 14 o_6.2.2.2.2.2.2.1, zVi (a0 14) k11 8 f11, zVl (a0 40) k12 14 o_6.2.2.2.2.2.2.2, zVi (a0 15) k13 8 f13, zVi (a0 26) k14 28 f14, zVl (a0 65) k15 14 o_11.2.1, zVl (a0 66) k16 14 o_11.2.2] H := hP
    have hD := zDW hD hP rfl
    refine lv_iload_n hx hb dX12_trial_33 rfl (lv_at hl 3 rfl) ?_
    refine lv_if_eq (tgt := 46) hx hb dX12_trial_34 (of_decide_eq_true rfl) (fun c_15 => ?_) (fun c_15 => ?_)
    · have hfn := (if_pos c_15).symm.trans hfn
      refine lv_aload_n hx hb dX12_trial_46 rfl (lv_at hl 1 rfl) ?_
      refine va_get (D := (dC, dI)) (ci := 12) (v := .ref (a0 65)) (C := RX12) (T := TX12) (N := 67) hx hb hts zn_X12_trial_X12 hown hK hP 0 rfl rfl 65 (of_decide_eq_true rfl) (hts (.fieldLink RX12 210 "ShortEnoughModel" "exact" "[J") zw_X12_trial_1390) (fun _ h9 => h9) rfl dX12_trial_47 ?_
      refine lv_iload_n hx hb dX12_trial_50 rfl (lv_at hl 2 rfl) ?_
      obtain ⟨h_16, hfn⟩ := zg_s hfn
      refine va_lald hx hb hK hP 15 14 rfl rfl h_16 dX12_trial_51 ?_
      have ho := Option.some.inj hfn
      subst ho
      exact zrl hx hb hr hK hP hD hS hQ rfl hlocks dX12_trial_52
    have hfn := (if_neg c_15).symm.trans hfn
    refine lv_aload_n hx hb dX12_trial_37 rfl (lv_at hl 1 rfl) ?_
    refine va_get (D := (dC, dI)) (ci := 12) (v := .ref (a0 66)) (C := RX12) (T := TX12) (N := 67) hx hb hts zn_X12_trial_X12 hown hK hP 0 rfl rfl 66 (of_decide_eq_true rfl) (hts (.fieldLink RX12 213 "ShortEnoughModel" "keptAs" "[J") zw_X12_trial_1391) (fun _ h9 => h9) rfl dX12_trial_38 ?_
    refine lv_iload_n hx hb dX12_trial_41 rfl (lv_at hl 2 rfl) ?_
    obtain ⟨h_17, hfn⟩ := zg_s hfn
    refine va_lald hx hb hK hP 16 15 rfl rfl h_17 dX12_trial_42 ?_
    refine lv_goto (tgt := 52) hx hb dX12_trial_43 (of_decide_eq_true rfl) ?_
    have ho := Option.some.inj hfn
    subst ho
    exact zrl hx hb hr hK hP hD hS hQ rfl hlocks dX12_trial_52
  have hfn := (if_pos c_10).symm.trans hfn
  refine lv_ldc2 (v := (-1000000000000000)) hx hb hown (hts (.constantLong RX12 381 (-1000000000000000)) zw_X12_trial_1387) dX12_trial_15 ?_
  have ho := Option.some.inj hfn
  subst ho
  exact zrl hx hb hr hK hP hD hS hQ rfl hlocks dX12_trial_18
theorem zn_X12_seed_X12 : ∀ w ∈ wsX120, w ∈ wsX12_seed := fun _ h => List.mem_cons_of_mem _ (List.mem_append_right _ h)
theorem zw_X12_seed_1393 : Cond.fieldLink RX12 207 "ShortEnoughModel" "seedNow" "I" ∈ wsX12_seed := List.mem_of_getElem? (i := 1) (by decide +kernel)
set_option maxHeartbeats 4000000 in
set_option maxRecDepth 100000 in
theorem zf_X12_seed (l : Launch) (dC : Nat → ClassId) (dI : Nat → Nat → Nat) (h0 : Nat) (p1 : Int32) (a0 : Nat → Nat) (b0 : Nat → Int32) (c0 : Nat → Int64) (k1 : Nat) (f1 : Nat → Int32) (o : Int32 × Int32 × (Nat → Int32)) (hfn : fn_X12_seed p1 (b0 64) f1 = some o) (sz : Nat) : zMi l yX12_seed wsX12_seed ({ frames := 1, cells := 0, slots := 0, locals := 21 }) (dC, dI) vwCl [.ref h0, .int p1] [(h0, .inr (12, zO a0 b0 c0)), zVi (a0 2) k1 5 f1] [(k1, .int)] (fun r _ => r = o.1 ∧ narrow .boolean (.int o.1) = .int o.1) [(h0, .inr (12, zO a0 (zI b0 64 o.2.1) c0)), zVi (a0 2) k1 5 o.2.2] [(k1, .int)] sz := by
  refine zgoi (cc := cX12_seed) (maxL := 2) (ret := (some .boolean)) (C0 := RX12) (lv0 := [(0, .ref h0), (1, .int p1)]) zpl_X12 rfl rfl rfl (Nat.le_of_ble_eq_true rfl) ?_
  intro p e s m below meth c A ls Q hx hb hr hts hown hlocks hml hP hK hD hA hS hl hQ
  unfold fn_X12_seed at hfn
  refine lv_iload_n hx hb dX12_seed_0 rfl (lv_at hl 1 rfl) ?_
  refine lv_if_ge (tgt := 10) hx hb dX12_seed_1 (of_decide_eq_true rfl) (fun c_1 => ?_) (fun c_1 => ?_)
  · have hfn := (if_pos c_1).symm.trans hfn
    refine lv_aload_n hx hb dX12_seed_10 rfl (lv_at hl 0 rfl) ?_
    refine lv_iload_n hx hb dX12_seed_11 rfl (lv_at hl 1 rfl) ?_
    refine va_put (D := (dC, dI)) (ci := 12) (v := .int p1) (ty := .int) (C := RX12) (T := TX12) (N := 67) hx hb hts zn_X12_seed_X12 tyX12 tyX12_ok nmX12 hown hK hP hD hS 0 rfl rfl 64 (of_decide_eq_true rfl) (hts (.fieldLink RX12 207 "ShortEnoughModel" "seedNow" "I") zw_X12_seed_1393) (fun _ h9 => h9) rfl (tyX12_ok 64 (of_decide_eq_true rfl)) rfl rfl (Nat.le_of_ble_eq_true rfl) dX12_seed_12 (fun H locs hP hD hS => ?_)
    have hP : va_P (dC, dI) vwCl [(h0, .inr (12, zO a0 (zI b0 64 p1) c0)), zVi (a0 2) k1 5 f1] H := hP
    have hD := zDW hD hP rfl
    refine lv_iconst (v := 1) hx hb dX12_seed_15 zci_1 ?_
    have ho := Option.some.inj hfn
    subst ho
    exact zrz hx hb hr rfl hK hP hD hS hQ ⟨rfl, zB1⟩ hlocks dX12_seed_16
  have hfn := (if_neg c_1).symm.trans hfn
  refine lv_aload_n hx hb dX12_seed_4 rfl (lv_at hl 0 rfl) ?_
  refine lv_iconst (v := 4) hx hb dX12_seed_5 zci_4 ?_
  obtain ⟨o_2, hqo_2, hfn⟩ := zb_s hfn
  refine zcVb (ci := 12) (rest := []) (pc' := 9) (ws' := [(h0, .inr (12, zO a0 b0 c0)), zVi (a0 2) k1 5 o_2.2]) hP hK hD hS hA ⟨hx, hb, hml, hown, hts⟩ (zf_X12_isRefused l dC dI h0 4 a0 b0 c0 k1 f1 o_2 hqo_2 s.heap.size) (cwV 1 hts gX12_seed_X12_isRefused rfl rfl rfl zhd_X12_isRefused ⟨Nat.le_of_ble_eq_true rfl, Nat.le_of_ble_eq_true rfl⟩) [0, 1] rfl (of_decide_eq_true rfl) [0] rfl rfl rfl rfl hl.1 rfl (Nat.le_of_ble_eq_true rfl) dX12_seed_6 ⟨Nat.le_of_ble_eq_true rfl, Nat.le_of_ble_eq_true rfl⟩ [some 0, some 1] (of_decide_eq_true rfl) (of_decide_eq_true rfl) rfl rfl rfl (fun H locs hw_5n hP hD hS => ?_)
  have ho := Option.some.inj hfn
  subst ho
  exact zrz hx hb hr hw_5n hK hP hD hS hQ ⟨rfl, hw_5n⟩ hlocks dX12_seed_9
theorem zw_X12_status_1394 : Cond.constantLong RX12 550 (4) ∈ wsX12_status := List.mem_of_getElem? (i := 1) (by decide +kernel)
theorem zn_X12_status_X12 : ∀ w ∈ wsX120, w ∈ wsX12_status := fun _ h => List.mem_cons_of_mem _ (List.mem_append_right _ h)
theorem zw_X12_status_1396 : Cond.fieldLink RX12 17 "ShortEnoughModel" "refused" "[I" ∈ wsX12_status := List.mem_of_getElem? (i := 2) (by decide +kernel)
set_option maxHeartbeats 4000000 in
set_option maxRecDepth 100000 in
theorem zf_X12_status (l : Launch) (dC : Nat → ClassId) (dI : Nat → Nat → Nat) (h0 : Nat) (p1 : Int32) (a0 : Nat → Nat) (b0 : Nat → Int32) (c0 : Nat → Int64) (k1 : Nat) (f1 : Nat → Int32) (o : Int32) (hfn : fn_X12_status p1 f1 = some o) (sz : Nat) : zMi l yX12_status wsX12_status ({ frames := 1, cells := 0, slots := 0, locals := 25 }) (dC, dI) vwCl [.ref h0, .int p1] [(h0, .inr (12, zO a0 b0 c0)), zVi (a0 2) k1 5 f1] [(k1, .int)] (fun r _ => r = o) [(h0, .inr (12, zO a0 b0 c0)), zVi (a0 2) k1 5 f1] [(k1, .int)] sz := by
  refine zgoi (cc := cX12_status) (maxL := 2) (ret := (some .int)) (C0 := RX12) (lv0 := [(0, .ref h0), (1, .int p1)]) zpl_X12 rfl rfl rfl (Nat.le_of_ble_eq_true rfl) ?_
  intro p e s m below meth c A ls Q hx hb hr hts hown hlocks hml hP hK hD hA hS hl hQ
  unfold fn_X12_status at hfn
  refine lv_iload_n hx hb dX12_status_0 rfl (lv_at hl 1 rfl) ?_
  refine lv_i2l (v := p1.toInt64) hx hb dX12_status_1 rfl ?_
  refine lv_lconst (v := 0) hx hb dX12_status_2 (by decide +kernel) ?_
  refine lv_ldc2 (v := 4) hx hb hown (hts (.constantLong RX12 550 (4)) zw_X12_status_1394) dX12_status_3 ?_
  obtain ⟨o_1, hqo_1, hfn⟩ := zb_s hfn
  refine zcSb (rest := []) (pc' := 9) (ws' := [(h0, .inr (12, zO a0 b0 c0)), zVi (a0 2) k1 5 f1]) hP hK hD hS hA ⟨hx, hb, hml, hown, hts⟩ (zf_X12_isIn l dC dI p1.toInt64 (0 : Int64) (4 : Int64) o_1 hqo_1 s.heap.size) (va_cwS 3 hts gX12_status_X12_isIn rfl rfl rfl zhd_X12_isIn.2 ⟨Nat.le_of_ble_eq_true rfl, Nat.le_of_ble_eq_true rfl⟩) [] rfl (of_decide_eq_true rfl) [] rfl rfl hl.1 rfl (Nat.le_of_ble_eq_true rfl) dX12_status_6 ⟨Nat.le_of_ble_eq_true rfl, Nat.le_of_ble_eq_true rfl⟩ [] (of_decide_eq_true rfl) (of_decide_eq_true rfl) rfl rfl rfl (fun H locs hw_4n hP hD hS => ?_)
  refine lv_if_eq (tgt := 21) hx hb dX12_status_9 (of_decide_eq_true rfl) (fun c_5 => ?_) (fun c_5 => ?_)
  · have hfn := (if_pos c_5).symm.trans hfn
    refine lv_iconst (v := (-1)) hx hb dX12_status_21 zci_m1 ?_
    have ho := Option.some.inj hfn
    subst ho
    exact zri hx hb hr hK hP hD hS hQ rfl hlocks dX12_status_22
  have hfn := (if_neg c_5).symm.trans hfn
  refine lv_aload_n hx hb dX12_status_12 rfl (lv_at hl 0 rfl) ?_
  refine va_get (D := (dC, dI)) (ci := 12) (v := .ref (a0 2)) (C := RX12) (T := TX12) (N := 67) hx hb hts zn_X12_status_X12 hown hK hP 0 rfl rfl 2 (of_decide_eq_true rfl) (hts (.fieldLink RX12 17 "ShortEnoughModel" "refused" "[I") zw_X12_status_1396) (fun _ h9 => h9) rfl dX12_status_13 ?_
  refine lv_iload_n hx hb dX12_status_16 rfl (lv_at hl 1 rfl) ?_
  obtain ⟨h_6, hfn⟩ := zg_s hfn
  refine va_iald hx hb hK hP 1 0 rfl rfl h_6 dX12_status_17 ?_
  refine lv_goto (tgt := 22) hx hb dX12_status_18 (of_decide_eq_true rfl) ?_
  have ho := Option.some.inj hfn
  subst ho
  exact zri hx hb hr hK hP hD hS hQ rfl hlocks dX12_status_22
