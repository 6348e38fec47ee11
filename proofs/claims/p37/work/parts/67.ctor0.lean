set_option maxHeartbeats 4000000 in
set_option maxRecDepth 100000 in
theorem zc8_X5_init (l : Launch) (dC : Nat → ClassId) (dI : Nat → Nat → Nat) (adK adV : Nat → Nat) (h0 : Nat) (sz : Nat) : Met l yX5_init wsX5_init ({ frames := 7, cells := 3, slots := 21, locals := 224 }) (va_Pc [.ref h0] (fun U => zF adK adV (va_A [(h0, .inr (5, [.null, .int 0, .int 0, .int 0]))] sz) U U.heap ∧ U.heap.size = sz ∧ va_P (dC, dI) vwCl [(h0, .inr (5, [.null, .int 0, .int 0, .int 0]))] U.heap ∧ va_K (dC, dI) vwCl [] U ∧ va_D (fun _ => True) [(h0, .inr (5, [.null, .int 0, .int 0, .int 0]))])) (va_Qv (fun (u : zU) => ∀ w : Nat, w < 13 → u.2 0 w = zOw w 6) (fun u t => va_P (dC, dI) vwCl [zV5 h0 (u.1 0) 0 0 (-1), zV10 (u.1 0) (u.1 1) (u.1 2) 0 0 0 0 0 0, zVi (u.1 1) (u.1 3) 13 (u.2 0)] t.heap ∧ va_K (dC, dI) vwCl [((u.1 3), .int)] t ∧ va_D (va_A [(h0, .inr (5, [.null, .int 0, .int 0, .int 0]))] sz) [zV5 h0 (u.1 0) 0 0 (-1), zV10 (u.1 0) (u.1 1) (u.1 2) 0 0 0 0 0 0, zVi (u.1 1) (u.1 3) 13 (u.2 0)]) (va_A [(h0, .inr (5, [.null, .int 0, .int 0, .int 0]))] sz)) 3 21 (va_A [(h0, .inr (5, [.null, .int 0, .int 0, .int 0]))] sz) := by
  refine Met.ofW (cc := cX5_init) (maxL := 1) (ret := none) (by decide +kernel) rfl ?_
  intro p e s m args below meth c s₁ B hml hv
  obtain ⟨rfl, hzf, hsz, hP, hK, hD0⟩ := hv
  have hx := B.exec
  have hb := B.bytes
  have hr := B.returns
  have hts := atoms_spec (ws := wsX5_init) B.pre
  have hown : s.vm.findClass RX5 = some m.cls := (findClass_of_methodNamed B.named :)
  have hlocks := B.notSynchronized
  have hin : meth.name = "<init>" := (name_of_methodNamed B.named B.method).1
  subst hsz
  replace hD := hD0.self (sz := s.heap.size)
  generalize hAe : va_A [(h0, .inr (5, [.null, .int 0, .int 0, .int 0]))] s.heap.size = A at hD hzf ⊢
  have hA : ∀ q : Nat, s.heap.size ≤ q → A q := fun q h => by rw [← hAe]; exact Or.inr h
  have hS : va_S A s.heap s.heap [] := va_S.rf
  replace hP : va_P (dC, dI) vwCl [(h0, .inr (5, [.null, .int 0, .int 0, .int 0]))] s.heap := hP
  have hl := lv_entry ([.ref h0]) (n := 1) (Nat.le_of_ble_eq_true rfl)
  rw [lg_entry_eq]
  generalize (lg_sl ([.ref h0]) ++ List.replicate (1 - (lg_sl ([.ref h0])).length) Slot.unset).toArray = ls at hl ⊢
  have hl : lv_has ls 1 [(0, .ref h0)] := hl
  refine lv_aload_n hx hb dX5_init_0 rfl (lv_at hl 0 rfl) ?_
  refine W.objInit hx hb hown (hts (.methodLink RX5 3 objectInit) zw_X5_init_27) (hts (.instanceMethod objectInit) zw_X5_init_28) (hts (.code objectInit ⟨#[0xb1]⟩ 1 none) zw_X5_init_29) rfl (by rw [hml]; exact hl.1) rfl dX5_init_1 (Nat.le_of_ble_eq_true rfl) (Nat.le_of_ble_eq_true rfl) ?_
  refine W.eq (g2 := F0 m 4 ls []) rfl ?_
  refine lv_aload_n hx hb dX5_init_4 rfl (lv_at hl 0 rfl) ?_
  refine va_new (ci := 10) (fs := [.null, .null, .int 0, .int 0, .int 0, .int 0, .int 0, .int 0]) (C := RX10) (T := TX10) (N := 8) hx hb hts zn_X5_init_X10 tyX10 tyX10_ok hown (hts (.classLink RX5 9 RX10) zw_X5_init_31) (hts (.instantiable RX10 8) zw_X5_init_32) (hts (.initialized RX10) zw_X5_init_33) hK hP hD hS hA rfl zd_X10 (Nat.le_of_ble_eq_true rfl) (Nat.le_of_ble_eq_true rfl) dX5_init_5 (fun q_1 H hP hD hS => ?_)
  replace hP : va_P (dC, dI) vwCl [(h0, .inr (5, [.null, .int 0, .int 0, .int 0])), (q_1, .inr (10, [.null, .null, .int 0, .int 0, .int 0, .int 0, .int 0, .int 0]))] H := hP
  replace hD := zDW hD hP rfl
  refine W.widen (k := 1) (n := 8) (Nat.le_of_ble_eq_true rfl) (Nat.le_of_ble_eq_true rfl) ?_
  refine lv_dup hx hb dX5_init_8 rfl ?_
  replace hPc := hP.sub (ws' := [(q_1, .inr (10, [.null, .null, .int 0, .int 0, .int 0, .int 0, .int 0, .int 0]))]) [1] rfl
  replace hDc := hD.sub (ws' := [(q_1, .inr (10, [.null, .null, .int 0, .int 0, .int 0, .int 0, .int 0, .int 0]))]) [1] (by decide) rfl
  replace hKc := hK.sub (tys' := []) [] rfl
  replace hFc := va_free (wc := [(q_1, .inr (10, [.null, .null, .int 0, .int 0, .int 0, .int 0, .int 0, .int 0]))]) hD hS hA [1] rfl
  refine va_callv (va_runI (As := []) (rest := [.ref q_1, .ref h0]) ⟨hx, hb, hml, hown, hts⟩ (zc_words l dC dI adK adV q_1 H.size) (cwI 0 hts gX5_init_X10_init rfl rfl rfl (hts (.initialized RX10) zw_X5_init_33) (hts (.methodLink RX5 11 yX10_init) zw_X5_init_34) (hts (.instanceMethod yX10_init) zw_X5_init_35) rfl (by decide +kernel) ⟨Nat.le_of_ble_eq_true rfl, Nat.le_of_ble_eq_true rfl⟩) ⟨fun a U g mk q => by obtain ⟨q0, n0, q1, qP, qK, qD⟩ := q; exact ⟨q0, zF_blind n0, q1, qP, va_K.moved (u := U) (U := U.calling g mk a) (Vm.Alike.refl U.vm) qK, qD⟩, fun U hU hW => ⟨rfl, zF_to hzf hS hFc hW hU, by rw [hU], by rw [hU]; exact hPc, va_K.moved hW.alike hKc, hDc.weaken (fun _ _ _ _ => trivial)⟩⟩ rfl rfl hl.1 rfl (lv_room (Nat.le_of_ble_eq_true rfl)) dX5_init_9 ⟨Nat.le_of_ble_eq_true rfl, Nat.le_of_ble_eq_true rfl⟩) hS (fun q _ h => hFc q h) hFc (fun u_3 t H1 locs ht hvm hw_4 hB hz1 hk1 hS => ?_)
  obtain ⟨hP1, hK1, hD1⟩ := hB
  rw [ht] at hP1
  replace hK1 := va_K.moved hvm.symm hK1
  obtain ⟨hP, hD⟩ := va_join (wr := [(h0, .inr (5, [.null, .int 0, .int 0, .int 0]))]) (w1 := [zV10 q_1 (u_3.1 0) (u_3.1 1) 0 0 0 0 0 0, zVi (u_3.1 0) (u_3.1 2) 13 (u_3.2 0)]) hP hD [1] [0] rfl rfl (by decide) (by decide) hk1 hFc hP1 hD1
  replace hK := hK.app hK1
  generalize H1 = H at hP hS ⊢
  replace hP : va_P (dC, dI) vwCl [(h0, .inr (5, [.null, .int 0, .int 0, .int 0])), zV10 q_1 (u_3.1 0) (u_3.1 1) 0 0 0 0 0 0, zVi (u_3.1 0) (u_3.1 2) 13 (u_3.2 0)] H := hP
  replace hD := zDW hD hP rfl
  replace hK : va_K (dC, dI) vwCl [((u_3.1 2), .int)] s := hK
  refine W.widen (k := 3) (n := 21) (Nat.le_of_ble_eq_true rfl) (Nat.le_of_ble_eq_true rfl) ?_
  refine va_putF (D := (dC, dI)) (ci := 5) (v := .ref q_1) (ty := .object "ShortEnough$Words") (C := RX5) (T := TX5) (N := 4) hx hb hts zn_X5_init_X5 tyX5 tyX5_ok nmX5 hown hK hP hD hS 0 rfl rfl 0 (by decide) (hts (.fieldLink RX5 12 "ShortEnough$Parser" "words" "LShortEnough$Words;") zw_X5_init_37) (fun _ h9 => h9) rfl hin rfl (by decide +kernel) rfl rfl (Nat.le_of_ble_eq_true rfl) dX5_init_12 ?_
  clear hP hD hS
  intro H locs hP hD hS
  replace hP : va_P (dC, dI) vwCl [zV5 h0 q_1 0 0 0, zV10 q_1 (u_3.1 0) (u_3.1 1) 0 0 0 0 0 0, zVi (u_3.1 0) (u_3.1 2) 13 (u_3.2 0)] H := hP
  replace hD := zDW hD hP rfl
  refine lv_aload_n hx hb dX5_init_15 rfl (lv_at hl 0 rfl) ?_
  refine lv_iconst (v := (-1)) hx hb dX5_init_16 zci_m1 ?_
  refine va_put (D := (dC, dI)) (ci := 5) (v := .int (-1)) (ty := .int) (C := RX5) (T := TX5) (N := 4) hx hb hts zn_X5_init_X5 tyX5 tyX5_ok nmX5 hown hK hP hD hS 0 rfl rfl 3 (by decide) (hts (.fieldLink RX5 18 "ShortEnough$Parser" "faultPlace" "I") zw_X5_init_38) (fun _ h9 => h9) rfl (by decide +kernel) rfl rfl (Nat.le_of_ble_eq_true rfl) dX5_init_17 ?_
  clear hP hD hS
  intro H locs hP hD hS
  replace hP : va_P (dC, dI) vwCl [zV5 h0 q_1 0 0 (-1), zV10 q_1 (u_3.1 0) (u_3.1 1) 0 0 0 0 0 0, zVi (u_3.1 0) (u_3.1 2) 13 (u_3.2 0)] H := hP
  replace hD := zDW hD hP rfl
  have hP9 := hP.sub (ws' := [zV5 h0 q_1 0 0 (-1), zV10 q_1 (u_3.1 0) (u_3.1 1) 0 0 0 0 0 0, zVi (u_3.1 0) (u_3.1 2) 13 (u_3.2 0)]) [0, 1, 2] rfl
  have hD9 := hD.sub (ws' := [zV5 h0 q_1 0 0 (-1), zV10 q_1 (u_3.1 0) (u_3.1 1) 0 0 0 0 0 0, zVi (u_3.1 0) (u_3.1 2) 13 (u_3.2 0)]) [0, 1, 2] (by decide) rfl
  have hK9 := hK.sub (tys' := [((u_3.1 2), .int)]) [0] rfl
  refine W.widen (k := 3) (n := 21) (Nat.le_of_ble_eq_true rfl) (Nat.le_of_ble_eq_true rfl) ?_
  exact W.vret hx hb hr (fun t ht hW => ⟨⟨((fun k => ([q_1, (u_3.1 0), (u_3.1 1), (u_3.1 2)] : List Nat).getD k 0), (fun k => ([(u_3.2 0)] : List (Nat → Int32)).getD k (fun _ => 0))), rfl, hw_4, by rw [ht]; exact hP9, va_K.moved hW.alike hK9, hD9⟩, hS.F ht⟩) hS.2.2 dX5_init_20
set_option maxHeartbeats 4000000 in
set_option maxRecDepth 100000 in
theorem zc9_X4_init (l : Launch) (dC : Nat → ClassId) (dI : Nat → Nat → Nat) (h0 : Nat) (sz : Nat) : Met l yX4_init wsX4_init ({ frames := 1, cells := 8, slots := 140, locals := 20 }) (va_Pc [.ref h0] (fun U => U.heap.size = sz ∧ va_P (dC, dI) vwCl [(h0, .inr (4, [.int 0, .int 0, .null, .null, .null, .null, .null, .null, .null, .null]))] U.heap ∧ va_K (dC, dI) vwCl [] U ∧ va_D (fun _ => True) [(h0, .inr (4, [.int 0, .int 0, .null, .null, .null, .null, .null, .null, .null, .null]))])) (va_Qv (fun (u : zU) => True) (fun u t => va_P (dC, dI) vwCl [zV4 h0 0 0 (u.1 0) (u.1 1) (u.1 2) (u.1 3) (u.1 4) (u.1 5) (u.1 6) (u.1 7), zVi (u.1 0) (u.1 8) 14 (fun _ => 0), zVi (u.1 1) (u.1 9) 14 (fun _ => 0), zVi (u.1 2) (u.1 10) 14 (fun _ => 0), zVi (u.1 3) (u.1 11) 14 (fun _ => 0), zVi (u.1 4) (u.1 12) 14 (fun _ => 0), zVi (u.1 5) (u.1 13) 14 (fun _ => 0), zVi (u.1 6) (u.1 14) 28 (fun _ => 0), zVi (u.1 7) (u.1 15) 28 (fun _ => 0)] t.heap ∧ va_K (dC, dI) vwCl [((u.1 8), .int), ((u.1 9), .int), ((u.1 10), .int), ((u.1 11), .int), ((u.1 12), .int), ((u.1 13), .int), ((u.1 14), .int), ((u.1 15), .int)] t ∧ va_D (va_A [(h0, .inr (4, [.int 0, .int 0, .null, .null, .null, .null, .null, .null, .null, .null]))] sz) [zV4 h0 0 0 (u.1 0) (u.1 1) (u.1 2) (u.1 3) (u.1 4) (u.1 5) (u.1 6) (u.1 7), zVi (u.1 0) (u.1 8) 14 (fun _ => 0), zVi (u.1 1) (u.1 9) 14 (fun _ => 0), zVi (u.1 2) (u.1 10) 14 (fun _ => 0), zVi (u.1 3) (u.1 11) 14 (fun _ => 0), zVi (u.1 4) (u.1 12) 14 (fun _ => 0), zVi (u.1 5) (u.1 13) 14 (fun _ => 0), zVi (u.1 6) (u.1 14) 28 (fun _ => 0), zVi (u.1 7) (u.1 15) 28 (fun _ => 0)]) (va_A [(h0, .inr (4, [.int 0, .int 0, .null, .null, .null, .null, .null, .null, .null, .null]))] sz)) 8 140 (va_A [(h0, .inr (4, [.int 0, .int 0, .null, .null, .null, .null, .null, .null, .null, .null]))] sz) := by
  refine Met.ofW (cc := cX4_init) (maxL := 1) (ret := none) (by decide +kernel) rfl ?_
  intro p e s m args below meth c s₁ B hml hv
  obtain ⟨rfl, hsz, hP, hK, hD0⟩ := hv
  have hx := B.exec
  have hb := B.bytes
  have hr := B.returns
  have hts := atoms_spec (ws := wsX4_init) B.pre
  have hown : s.vm.findClass RX4 = some m.cls := (findClass_of_methodNamed B.named :)
  have hlocks := B.notSynchronized
  have hin : meth.name = "<init>" := (name_of_methodNamed B.named B.method).1
  subst hsz
  replace hD := hD0.self (sz := s.heap.size)
  generalize hAe : va_A [(h0, .inr (4, [.int 0, .int 0, .null, .null, .null, .null, .null, .null, .null, .null]))] s.heap.size = A at hD ⊢
  have hA : ∀ q : Nat, s.heap.size ≤ q → A q := fun q h => by rw [← hAe]; exact Or.inr h
  have hS : va_S A s.heap s.heap [] := va_S.rf
  replace hP : va_P (dC, dI) vwCl [(h0, .inr (4, [.int 0, .int 0, .null, .null, .null, .null, .null, .null, .null, .null]))] s.heap := hP
  have hl := lv_entry ([.ref h0]) (n := 1) (Nat.le_of_ble_eq_true rfl)
  rw [lg_entry_eq]
  generalize (lg_sl ([.ref h0]) ++ List.replicate (1 - (lg_sl ([.ref h0])).length) Slot.unset).toArray = ls at hl ⊢
  have hl : lv_has ls 1 [(0, .ref h0)] := hl
  refine lv_aload_n hx hb dX4_init_0 rfl (lv_at hl 0 rfl) ?_
  refine W.objInit hx hb hown (hts (.methodLink RX4 3 objectInit) zw_X4_init_58) (hts (.instanceMethod objectInit) zw_X4_init_59) (hts (.code objectInit ⟨#[0xb1]⟩ 1 none) zw_X4_init_60) rfl (by rw [hml]; exact hl.1) rfl dX4_init_1 (Nat.le_of_ble_eq_true rfl) (Nat.le_of_ble_eq_true rfl) ?_
  refine W.eq (g2 := F0 m 4 ls []) rfl ?_
  refine lv_aload_n hx hb dX4_init_4 rfl (lv_at hl 0 rfl) ?_
  refine lv_bipush (v := 14) hx hb dX4_init_5 zcb_14 ?_
  refine va_newa (atype := .int) (ty := .int) (N' := 14) (a0 := (14, .inl (fun _ => 0))) hx hb (hts (.arrayClass .int) zw_X4_init_61) rfl hK hP hD hS hA (fun _ => rfl) (by decide +kernel) (by decide +kernel) (Nat.le_of_ble_eq_true rfl) (Nat.le_of_ble_eq_true rfl) (Nat.le_of_ble_eq_true rfl) dX4_init_7 (fun q_1 a_2 H hK hP hD hS => ?_)
  replace hP : va_P (dC, dI) vwCl [(h0, .inr (4, [.int 0, .int 0, .null, .null, .null, .null, .null, .null, .null, .null])), zVi q_1 a_2 14 (fun _ => 0)] H := hP
  replace hD := zDW hD hP rfl
  replace hK : va_K (dC, dI) vwCl [(a_2, .int)] s := hK
  refine W.widen (k := 1) (n := 14) (Nat.le_of_ble_eq_true rfl) (Nat.le_of_ble_eq_true rfl) ?_
  refine va_putF (D := (dC, dI)) (ci := 4) (v := .ref q_1) (ty := .array .int) (C := RX4) (T := TX4) (N := 10) hx hb hts zn_X4_init_X4 tyX4 tyX4_ok nmX4 hown hK hP hD hS 0 rfl rfl 2 (by decide) (hts (.fieldLink RX4 9 "ShortEnough$Numbers" "name" "[I") zw_X4_init_63) (fun _ h9 => h9) rfl hin rfl (by decide +kernel) rfl rfl (Nat.le_of_ble_eq_true rfl) dX4_init_9 ?_
  clear hP hD hS
  intro H locs hP hD hS
  replace hP : va_P (dC, dI) vwCl [(h0, .inr (4, [.int 0, .int 0, .ref q_1, .null, .null, .null, .null, .null, .null, .null])), zVi q_1 a_2 14 (fun _ => 0)] H := hP
  replace hD := zDW hD hP rfl
  refine lv_aload_n hx hb dX4_init_12 rfl (lv_at hl 0 rfl) ?_
  refine lv_bipush (v := 14) hx hb dX4_init_13 zcb_14 ?_
  refine va_newa (atype := .int) (ty := .int) (N' := 14) (a0 := (14, .inl (fun _ => 0))) hx hb (hts (.arrayClass .int) zw_X4_init_61) rfl hK hP hD hS hA (fun _ => rfl) (by decide +kernel) (by decide +kernel) (Nat.le_of_ble_eq_true rfl) (Nat.le_of_ble_eq_true rfl) (Nat.le_of_ble_eq_true rfl) dX4_init_15 (fun q_3 a_4 H hK hP hD hS => ?_)
  replace hP : va_P (dC, dI) vwCl [(h0, .inr (4, [.int 0, .int 0, .ref q_1, .null, .null, .null, .null, .null, .null, .null])), zVi q_1 a_2 14 (fun _ => 0), zVi q_3 a_4 14 (fun _ => 0)] H := hP
  replace hD := zDW hD hP rfl
  replace hK : va_K (dC, dI) vwCl [(a_2, .int), (a_4, .int)] s := hK
  refine W.widen (k := 2) (n := 28) (Nat.le_of_ble_eq_true rfl) (Nat.le_of_ble_eq_true rfl) ?_
  refine va_putF (D := (dC, dI)) (ci := 4) (v := .ref q_3) (ty := .array .int) (C := RX4) (T := TX4) (N := 10) hx hb hts zn_X4_init_X4 tyX4 tyX4_ok nmX4 hown hK hP hD hS 0 rfl rfl 3 (by decide) (hts (.fieldLink RX4 15 "ShortEnough$Numbers" "op" "[I") zw_X4_init_64) (fun _ h9 => h9) rfl hin rfl (by decide +kernel) rfl rfl (Nat.le_of_ble_eq_true rfl) dX4_init_17 ?_
  clear hP hD hS
  intro H locs hP hD hS
  replace hP : va_P (dC, dI) vwCl [(h0, .inr (4, [.int 0, .int 0, .ref q_1, .ref q_3, .null, .null, .null, .null, .null, .null])), zVi q_1 a_2 14 (fun _ => 0), zVi q_3 a_4 14 (fun _ => 0)] H := hP
  replace hD := zDW hD hP rfl
  refine lv_aload_n hx hb dX4_init_20 rfl (lv_at hl 0 rfl) ?_
  refine lv_bipush (v := 14) hx hb dX4_init_21 zcb_14 ?_
  refine va_newa (atype := .int) (ty := .int) (N' := 14) (a0 := (14, .inl (fun _ => 0))) hx hb (hts (.arrayClass .int) zw_X4_init_61) rfl hK hP hD hS hA (fun _ => rfl) (by decide +kernel) (by decide +kernel) (Nat.le_of_ble_eq_true rfl) (Nat.le_of_ble_eq_true rfl) (Nat.le_of_ble_eq_true rfl) dX4_init_23 (fun q_5 a_6 H hK hP hD hS => ?_)
  replace hP : va_P (dC, dI) vwCl [(h0, .inr (4, [.int 0, .int 0, .ref q_1, .ref q_3, .null, .null, .null, .null, .null, .null])), zVi q_1 a_2 14 (fun _ => 0), zVi q_3 a_4 14 (fun _ => 0), zVi q_5 a_6 14 (fun _ => 0)] H := hP
  replace hD := zDW hD hP rfl
  replace hK : va_K (dC, dI) vwCl [(a_2, .int), (a_4, .int), (a_6, .int)] s := hK
  refine W.widen (k := 3) (n := 42) (Nat.le_of_ble_eq_true rfl) (Nat.le_of_ble_eq_true rfl) ?_
  refine va_putF (D := (dC, dI)) (ci := 4) (v := .ref q_5) (ty := .array .int) (C := RX4) (T := TX4) (N := 10) hx hb hts zn_X4_init_X4 tyX4 tyX4_ok nmX4 hown hK hP hD hS 0 rfl rfl 4 (by decide) (hts (.fieldLink RX4 18 "ShortEnough$Numbers" "fixedAs" "[I") zw_X4_init_65) (fun _ h9 => h9) rfl hin rfl (by decide +kernel) rfl rfl (Nat.le_of_ble_eq_true rfl) dX4_init_25 ?_
  clear hP hD hS
  intro H locs hP hD hS
  replace hP : va_P (dC, dI) vwCl [(h0, .inr (4, [.int 0, .int 0, .ref q_1, .ref q_3, .ref q_5, .null, .null, .null, .null, .null])), zVi q_1 a_2 14 (fun _ => 0), zVi q_3 a_4 14 (fun _ => 0), zVi q_5 a_6 14 (fun _ => 0)] H := hP
  replace hD := zDW hD hP rfl
  refine lv_aload_n hx hb dX4_init_28 rfl (lv_at hl 0 rfl) ?_
  refine lv_bipush (v := 14) hx hb dX4_init_29 zcb_14 ?_
  refine va_newa (atype := .int) (ty := .int) (N' := 14) (a0 := (14, .inl (fun _ => 0))) hx hb (hts (.arrayClass .int) zw_X4_init_61) rfl hK hP hD hS hA (fun _ => rfl) (by decide +kernel) (by decide +kernel) (Nat.le_of_ble_eq_true rfl) (Nat.le_of_ble_eq_true rfl) (Nat.le_of_ble_eq_true rfl) dX4_init_31 (fun q_7 a_8 H hK hP hD hS => ?_)
  replace hP : va_P (dC, dI) vwCl [(h0, .inr (4, [.int 0, .int 0, .ref q_1, .ref q_3, .ref q_5, .null, .null, .null, .null, .null])), zVi q_1 a_2 14 (fun _ => 0), zVi q_3 a_4 14 (fun _ => 0), zVi q_5 a_6 14 (fun _ => 0), zVi q_7 a_8 14 (fun _ => 0)] H := hP
  replace hD := zDW hD hP rfl
  replace hK : va_K (dC, dI) vwCl [(a_2, .int), (a_4, .int), (a_6, .int), (a_8, .int)] s := hK
  refine W.widen (k := 4) (n := 56) (Nat.le_of_ble_eq_true rfl) (Nat.le_of_ble_eq_true rfl) ?_
  refine va_putF (D := (dC, dI)) (ci := 4) (v := .ref q_7) (ty := .array .int) (C := RX4) (T := TX4) (N := 10) hx hb hts zn_X4_init_X4 tyX4 tyX4_ok nmX4 hown hK hP hD hS 0 rfl rfl 5 (by decide) (hts (.fieldLink RX4 21 "ShortEnough$Numbers" "allowed" "[I") zw_X4_init_66) (fun _ h9 => h9) rfl hin rfl (by decide +kernel) rfl rfl (Nat.le_of_ble_eq_true rfl) dX4_init_33 ?_
  clear hP hD hS
  intro H locs hP hD hS
  replace hP : va_P (dC, dI) vwCl [(h0, .inr (4, [.int 0, .int 0, .ref q_1, .ref q_3, .ref q_5, .ref q_7, .null, .null, .null, .null])), zVi q_1 a_2 14 (fun _ => 0), zVi q_3 a_4 14 (fun _ => 0), zVi q_5 a_6 14 (fun _ => 0), zVi q_7 a_8 14 (fun _ => 0)] H := hP
  replace hD := zDW hD hP rfl
  refine lv_aload_n hx hb dX4_init_36 rfl (lv_at hl 0 rfl) ?_
  refine lv_bipush (v := 14) hx hb dX4_init_37 zcb_14 ?_
  refine va_newa (atype := .int) (ty := .int) (N' := 14) (a0 := (14, .inl (fun _ => 0))) hx hb (hts (.arrayClass .int) zw_X4_init_61) rfl hK hP hD hS hA (fun _ => rfl) (by decide +kernel) (by decide +kernel) (Nat.le_of_ble_eq_true rfl) (Nat.le_of_ble_eq_true rfl) (Nat.le_of_ble_eq_true rfl) dX4_init_39 (fun q_9 a_10 H hK hP hD hS => ?_)
  replace hP : va_P (dC, dI) vwCl [(h0, .inr (4, [.int 0, .int 0, .ref q_1, .ref q_3, .ref q_5, .ref q_7, .null, .null, .null, .null])), zVi q_1 a_2 14 (fun _ => 0), zVi q_3 a_4 14 (fun _ => 0), zVi q_5 a_6 14 (fun _ => 0), zVi q_7 a_8 14 (fun _ => 0), zVi q_9 a_10 14 (fun _ => 0)] H := hP
  replace hD := zDW hD hP rfl
  replace hK : va_K (dC, dI) vwCl [(a_2, .int), (a_4, .int), (a_6, .int), (a_8, .int), (a_10, .int)] s := hK
  refine W.widen (k := 5) (n := 70) (Nat.le_of_ble_eq_true rfl) (Nat.le_of_ble_eq_true rfl) ?_
  refine va_putF (D := (dC, dI)) (ci := 4) (v := .ref q_9) (ty := .array .int) (C := RX4) (T := TX4) (N := 10) hx hb hts zn_X4_init_X4 tyX4 tyX4_ok nmX4 hown hK hP hD hS 0 rfl rfl 6 (by decide) (hts (.fieldLink RX4 24 "ShortEnough$Numbers" "lets" "[I") zw_X4_init_67) (fun _ h9 => h9) rfl hin rfl (by decide +kernel) rfl rfl (Nat.le_of_ble_eq_true rfl) dX4_init_41 ?_
  clear hP hD hS
  intro H locs hP hD hS
  replace hP : va_P (dC, dI) vwCl [(h0, .inr (4, [.int 0, .int 0, .ref q_1, .ref q_3, .ref q_5, .ref q_7, .ref q_9, .null, .null, .null])), zVi q_1 a_2 14 (fun _ => 0), zVi q_3 a_4 14 (fun _ => 0), zVi q_5 a_6 14 (fun _ => 0), zVi q_7 a_8 14 (fun _ => 0), zVi q_9 a_10 14 (fun _ => 0)] H := hP
  replace hD := zDW hD hP rfl
  refine lv_aload_n hx hb dX4_init_44 rfl (lv_at hl 0 rfl) ?_
  refine lv_bipush (v := 14) hx hb dX4_init_45 zcb_14 ?_
  refine va_newa (atype := .int) (ty := .int) (N' := 14) (a0 := (14, .inl (fun _ => 0))) hx hb (hts (.arrayClass .int) zw_X4_init_61) rfl hK hP hD hS hA (fun _ => rfl) (by decide +kernel) (by decide +kernel) (Nat.le_of_ble_eq_true rfl) (Nat.le_of_ble_eq_true rfl) (Nat.le_of_ble_eq_true rfl) dX4_init_47 (fun q_11 a_12 H hK hP hD hS => ?_)
  replace hP : va_P (dC, dI) vwCl [(h0, .inr (4, [.int 0, .int 0, .ref q_1, .ref q_3, .ref q_5, .ref q_7, .ref q_9, .null, .null, .null])), zVi q_1 a_2 14 (fun _ => 0), zVi q_3 a_4 14 (fun _ => 0), zVi q_5 a_6 14 (fun _ => 0), zVi q_7 a_8 14 (fun _ => 0), zVi q_9 a_10 14 (fun _ => 0), zVi q_11 a_12 14 (fun _ => 0)] H := hP
  replace hD := zDW hD hP rfl
  replace hK : va_K (dC, dI) vwCl [(a_2, .int), (a_4, .int), (a_6, .int), (a_8, .int), (a_10, .int), (a_12, .int)] s := hK
  refine W.widen (k := 6) (n := 84) (Nat.le_of_ble_eq_true rfl) (Nat.le_of_ble_eq_true rfl) ?_
  refine va_putF (D := (dC, dI)) (ci := 4) (v := .ref q_11) (ty := .array .int) (C := RX4) (T := TX4) (N := 10) hx hb hts zn_X4_init_X4 tyX4 tyX4_ok nmX4 hown hK hP hD hS 0 rfl rfl 7 (by decide) (hts (.fieldLink RX4 27 "ShortEnough$Numbers" "joined" "[I") zw_X4_init_68) (fun _ h9 => h9) rfl hin rfl (by decide +kernel) rfl rfl (Nat.le_of_ble_eq_true rfl) dX4_init_49 ?_
  clear hP hD hS
  intro H locs hP hD hS
  replace hP : va_P (dC, dI) vwCl [(h0, .inr (4, [.int 0, .int 0, .ref q_1, .ref q_3, .ref q_5, .ref q_7, .ref q_9, .ref q_11, .null, .null])), zVi q_1 a_2 14 (fun _ => 0), zVi q_3 a_4 14 (fun _ => 0), zVi q_5 a_6 14 (fun _ => 0), zVi q_7 a_8 14 (fun _ => 0), zVi q_9 a_10 14 (fun _ => 0), zVi q_11 a_12 14 (fun _ => 0)] H := hP
  replace hD := zDW hD hP rfl
  refine lv_aload_n hx hb dX4_init_52 rfl (lv_at hl 0 rfl) ?_
  refine lv_bipush (v := 28) hx hb dX4_init_53 zcb_28 ?_
  refine va_newa (atype := .int) (ty := .int) (N' := 28) (a0 := (28, .inl (fun _ => 0))) hx hb (hts (.arrayClass .int) zw_X4_init_61) rfl hK hP hD hS hA (fun _ => rfl) (by decide +kernel) (by decide +kernel) (Nat.le_of_ble_eq_true rfl) (Nat.le_of_ble_eq_true rfl) (Nat.le_of_ble_eq_true rfl) dX4_init_55 (fun q_13 a_14 H hK hP hD hS => ?_)
  replace hP : va_P (dC, dI) vwCl [(h0, .inr (4, [.int 0, .int 0, .ref q_1, .ref q_3, .ref q_5, .ref q_7, .ref q_9, .ref q_11, .null, .null])), zVi q_1 a_2 14 (fun _ => 0), zVi q_3 a_4 14 (fun _ => 0), zVi q_5 a_6 14 (fun _ => 0), zVi q_7 a_8 14 (fun _ => 0), zVi q_9 a_10 14 (fun _ => 0), zVi q_11 a_12 14 (fun _ => 0), zVi q_13 a_14 28 (fun _ => 0)] H := hP
  replace hD := zDW hD hP rfl
  replace hK : va_K (dC, dI) vwCl [(a_2, .int), (a_4, .int), (a_6, .int), (a_8, .int), (a_10, .int), (a_12, .int), (a_14, .int)] s := hK
  refine W.widen (k := 7) (n := 112) (Nat.le_of_ble_eq_true rfl) (Nat.le_of_ble_eq_true rfl) ?_
  refine va_putF (D := (dC, dI)) (ci := 4) (v := .ref q_13) (ty := .array .int) (C := RX4) (T := TX4) (N := 10) hx hb hts zn_X4_init_X4 tyX4 tyX4_ok nmX4 hown hK hP hD hS 0 rfl rfl 8 (by decide) (hts (.fieldLink RX4 30 "ShortEnough$Numbers" "made" "[I") zw_X4_init_69) (fun _ h9 => h9) rfl hin rfl (by decide +kernel) rfl rfl (Nat.le_of_ble_eq_true rfl) dX4_init_57 ?_
  clear hP hD hS
  intro H locs hP hD hS
  replace hP : va_P (dC, dI) vwCl [(h0, .inr (4, [.int 0, .int 0, .ref q_1, .ref q_3, .ref q_5, .ref q_7, .ref q_9, .ref q_11, .ref q_13, .null])), zVi q_1 a_2 14 (fun _ => 0), zVi q_3 a_4 14 (fun _ => 0), zVi q_5 a_6 14 (fun _ => 0), zVi q_7 a_8 14 (fun _ => 0), zVi q_9 a_10 14 (fun _ => 0), zVi q_11 a_12 14 (fun _ => 0), zVi q_13 a_14 28 (fun _ => 0)] H := hP
  replace hD := zDW hD hP rfl
  refine lv_aload_n hx hb dX4_init_60 rfl (lv_at hl 0 rfl) ?_
  refine lv_bipush (v := 28) hx hb dX4_init_61 zcb_28 ?_
  refine va_newa (atype := .int) (ty := .int) (N' := 28) (a0 := (28, .inl (fun _ => 0))) hx hb (hts (.arrayClass .int) zw_X4_init_61) rfl hK hP hD hS hA (fun _ => rfl) (by decide +kernel) (by decide +kernel) (Nat.le_of_ble_eq_true rfl) (Nat.le_of_ble_eq_true rfl) (Nat.le_of_ble_eq_true rfl) dX4_init_63 (fun q_15 a_16 H hK hP hD hS => ?_)
  replace hP : va_P (dC, dI) vwCl [(h0, .inr (4, [.int 0, .int 0, .ref q_1, .ref q_3, .ref q_5, .ref q_7, .ref q_9, .ref q_11, .ref q_13, .null])), zVi q_1 a_2 14 (fun _ => 0), zVi q_3 a_4 14 (fun _ => 0), zVi q_5 a_6 14 (fun _ => 0), zVi q_7 a_8 14 (fun _ => 0), zVi q_9 a_10 14 (fun _ => 0), zVi q_11 a_12 14 (fun _ => 0), zVi q_13 a_14 28 (fun _ => 0), zVi q_15 a_16 28 (fun _ => 0)] H := hP
  replace hD := zDW hD hP rfl
  replace hK : va_K (dC, dI) vwCl [(a_2, .int), (a_4, .int), (a_6, .int), (a_8, .int), (a_10, .int), (a_12, .int), (a_14, .int), (a_16, .int)] s := hK
  refine W.widen (k := 8) (n := 140) (Nat.le_of_ble_eq_true rfl) (Nat.le_of_ble_eq_true rfl) ?_
  refine va_putF (D := (dC, dI)) (ci := 4) (v := .ref q_15) (ty := .array .int) (C := RX4) (T := TX4) (N := 10) hx hb hts zn_X4_init_X4 tyX4 tyX4_ok nmX4 hown hK hP hD hS 0 rfl rfl 9 (by decide) (hts (.fieldLink RX4 33 "ShortEnough$Numbers" "amount" "[I") zw_X4_init_70) (fun _ h9 => h9) rfl hin rfl (by decide +kernel) rfl rfl (Nat.le_of_ble_eq_true rfl) dX4_init_65 ?_
  clear hP hD hS
  intro H locs hP hD hS
  replace hP : va_P (dC, dI) vwCl [zV4 h0 0 0 q_1 q_3 q_5 q_7 q_9 q_11 q_13 q_15, zVi q_1 a_2 14 (fun _ => 0), zVi q_3 a_4 14 (fun _ => 0), zVi q_5 a_6 14 (fun _ => 0), zVi q_7 a_8 14 (fun _ => 0), zVi q_9 a_10 14 (fun _ => 0), zVi q_11 a_12 14 (fun _ => 0), zVi q_13 a_14 28 (fun _ => 0), zVi q_15 a_16 28 (fun _ => 0)] H := hP
  replace hD := zDW hD hP rfl
  have hP9 := hP.sub (ws' := [zV4 h0 0 0 q_1 q_3 q_5 q_7 q_9 q_11 q_13 q_15, zVi q_1 a_2 14 (fun _ => 0), zVi q_3 a_4 14 (fun _ => 0), zVi q_5 a_6 14 (fun _ => 0), zVi q_7 a_8 14 (fun _ => 0), zVi q_9 a_10 14 (fun _ => 0), zVi q_11 a_12 14 (fun _ => 0), zVi q_13 a_14 28 (fun _ => 0), zVi q_15 a_16 28 (fun _ => 0)]) [0, 1, 2, 3, 4, 5, 6, 7, 8] rfl
  have hD9 := hD.sub (ws' := [zV4 h0 0 0 q_1 q_3 q_5 q_7 q_9 q_11 q_13 q_15, zVi q_1 a_2 14 (fun _ => 0), zVi q_3 a_4 14 (fun _ => 0), zVi q_5 a_6 14 (fun _ => 0), zVi q_7 a_8 14 (fun _ => 0), zVi q_9 a_10 14 (fun _ => 0), zVi q_11 a_12 14 (fun _ => 0), zVi q_13 a_14 28 (fun _ => 0), zVi q_15 a_16 28 (fun _ => 0)]) [0, 1, 2, 3, 4, 5, 6, 7, 8] (by decide) rfl
  have hK9 := hK.sub (tys' := [(a_2, .int), (a_4, .int), (a_6, .int), (a_8, .int), (a_10, .int), (a_12, .int), (a_14, .int), (a_16, .int)]) [0, 1, 2, 3, 4, 5, 6, 7] rfl
  refine W.widen (k := 8) (n := 140) (Nat.le_of_ble_eq_true rfl) (Nat.le_of_ble_eq_true rfl) ?_
  exact W.vret hx hb hr (fun t ht hW => ⟨⟨((fun k => ([q_1, q_3, q_5, q_7, q_9, q_11, q_13, q_15, a_2, a_4, a_6, a_8, a_10, a_12, a_14, a_16] : List Nat).getD k 0), (fun k => ([] : List (Nat → Int32)).getD k (fun _ => 0))), rfl, trivial, by rw [ht]; exact hP9, va_K.moved hW.alike hK9, hD9⟩, hS.F ht⟩) hS.2.2 dX4_init_68
set_option maxHeartbeats 4000000 in
set_option maxRecDepth 100000 in
theorem zc10_X2_init (l : Launch) (dC : Nat → ClassId) (dI : Nat → Nat → Nat) (h0 : Nat) (sz : Nat) : Met l yX2_init wsX2_init ({ frames := 1, cells := 3, slots := 42, locals := 20 }) (va_Pc [.ref h0] (fun U => U.heap.size = sz ∧ va_P (dC, dI) vwCl [(h0, .inr (2, [.int 0, .int 0, .int 0, .null, .null, .null]))] U.heap ∧ va_K (dC, dI) vwCl [] U ∧ va_D (fun _ => True) [(h0, .inr (2, [.int 0, .int 0, .int 0, .null, .null, .null]))])) (va_Qv (fun (u : zU) => True) (fun u t => va_P (dC, dI) vwCl [zV2 h0 0 0 0 (u.1 0) (u.1 1) (u.1 2), zVi (u.1 0) (u.1 3) 14 (fun _ => 0), zVi (u.1 1) (u.1 4) 14 (fun _ => 0), zVi (u.1 2) (u.1 5) 14 (fun _ => 0)] t.heap ∧ va_K (dC, dI) vwCl [((u.1 3), .int), ((u.1 4), .int), ((u.1 5), .int)] t ∧ va_D (va_A [(h0, .inr (2, [.int 0, .int 0, .int 0, .null, .null, .null]))] sz) [zV2 h0 0 0 0 (u.1 0) (u.1 1) (u.1 2), zVi (u.1 0) (u.1 3) 14 (fun _ => 0), zVi (u.1 1) (u.1 4) 14 (fun _ => 0), zVi (u.1 2) (u.1 5) 14 (fun _ => 0)]) (va_A [(h0, .inr (2, [.int 0, .int 0, .int 0, .null, .null, .null]))] sz)) 3 42 (va_A [(h0, .inr (2, [.int 0, .int 0, .int 0, .null, .null, .null]))] sz) := by
  refine Met.ofW (cc := cX2_init) (maxL := 1) (ret := none) (by decide +kernel) rfl ?_
  intro p e s m args below meth c s₁ B hml hv
  obtain ⟨rfl, hsz, hP, hK, hD0⟩ := hv
  have hx := B.exec
  have hb := B.bytes
  have hr := B.returns
  have hts := atoms_spec (ws := wsX2_init) B.pre
  have hown : s.vm.findClass RX2 = some m.cls := (findClass_of_methodNamed B.named :)
  have hlocks := B.notSynchronized
  have hin : meth.name = "<init>" := (name_of_methodNamed B.named B.method).1
  subst hsz
  replace hD := hD0.self (sz := s.heap.size)
  generalize hAe : va_A [(h0, .inr (2, [.int 0, .int 0, .int 0, .null, .null, .null]))] s.heap.size = A at hD ⊢
  have hA : ∀ q : Nat, s.heap.size ≤ q → A q := fun q h => by rw [← hAe]; exact Or.inr h
  have hS : va_S A s.heap s.heap [] := va_S.rf
  replace hP : va_P (dC, dI) vwCl [(h0, .inr (2, [.int 0, .int 0, .int 0, .null, .null, .null]))] s.heap := hP
  have hl := lv_entry ([.ref h0]) (n := 1) (Nat.le_of_ble_eq_true rfl)
  rw [lg_entry_eq]
  generalize (lg_sl ([.ref h0]) ++ List.replicate (1 - (lg_sl ([.ref h0])).length) Slot.unset).toArray = ls at hl ⊢
  have hl : lv_has ls 1 [(0, .ref h0)] := hl
  refine lv_aload_n hx hb dX2_init_0 rfl (lv_at hl 0 rfl) ?_
  refine W.objInit hx hb hown (hts (.methodLink RX2 3 objectInit) zw_X2_init_77) (hts (.instanceMethod objectInit) zw_X2_init_78) (hts (.code objectInit ⟨#[0xb1]⟩ 1 none) zw_X2_init_79) rfl (by rw [hml]; exact hl.1) rfl dX2_init_1 (Nat.le_of_ble_eq_true rfl) (Nat.le_of_ble_eq_true rfl) ?_
  refine W.eq (g2 := F0 m 4 ls []) rfl ?_
  refine lv_aload_n hx hb dX2_init_4 rfl (lv_at hl 0 rfl) ?_
  refine lv_bipush (v := 14) hx hb dX2_init_5 zcb_14 ?_
  refine va_newa (atype := .int) (ty := .int) (N' := 14) (a0 := (14, .inl (fun _ => 0))) hx hb (hts (.arrayClass .int) zw_X2_init_80) rfl hK hP hD hS hA (fun _ => rfl) (by decide +kernel) (by decide +kernel) (Nat.le_of_ble_eq_true rfl) (Nat.le_of_ble_eq_true rfl) (Nat.le_of_ble_eq_true rfl) dX2_init_7 (fun q_1 a_2 H hK hP hD hS => ?_)
  replace hP : va_P (dC, dI) vwCl [(h0, .inr (2, [.int 0, .int 0, .int 0, .null, .null, .null])), zVi q_1 a_2 14 (fun _ => 0)] H := hP
  replace hD := zDW hD hP rfl
  replace hK : va_K (dC, dI) vwCl [(a_2, .int)] s := hK
  refine W.widen (k := 1) (n := 14) (Nat.le_of_ble_eq_true rfl) (Nat.le_of_ble_eq_true rfl) ?_
  refine va_putF (D := (dC, dI)) (ci := 2) (v := .ref q_1) (ty := .array .int) (C := RX2) (T := TX2) (N := 6) hx hb hts zn_X2_init_X2 tyX2 tyX2_ok nmX2 hown hK hP hD hS 0 rfl rfl 3 (by decide) (hts (.fieldLink RX2 9 "ShortEnough$Groups" "of" "[I") zw_X2_init_82) (fun _ h9 => h9) rfl hin rfl (by decide +kernel) rfl rfl (Nat.le_of_ble_eq_true rfl) dX2_init_9 ?_
  clear hP hD hS
  intro H locs hP hD hS
  replace hP : va_P (dC, dI) vwCl [(h0, .inr (2, [.int 0, .int 0, .int 0, .ref q_1, .null, .null])), zVi q_1 a_2 14 (fun _ => 0)] H := hP
  replace hD := zDW hD hP rfl
  refine lv_aload_n hx hb dX2_init_12 rfl (lv_at hl 0 rfl) ?_
  refine lv_bipush (v := 14) hx hb dX2_init_13 zcb_14 ?_
  refine va_newa (atype := .int) (ty := .int) (N' := 14) (a0 := (14, .inl (fun _ => 0))) hx hb (hts (.arrayClass .int) zw_X2_init_80) rfl hK hP hD hS hA (fun _ => rfl) (by decide +kernel) (by decide +kernel) (Nat.le_of_ble_eq_true rfl) (Nat.le_of_ble_eq_true rfl) (Nat.le_of_ble_eq_true rfl) dX2_init_15 (fun q_3 a_4 H hK hP hD hS => ?_)
  replace hP : va_P (dC, dI) vwCl [(h0, .inr (2, [.int 0, .int 0, .int 0, .ref q_1, .null, .null])), zVi q_1 a_2 14 (fun _ => 0), zVi q_3 a_4 14 (fun _ => 0)] H := hP
  replace hD := zDW hD hP rfl
  replace hK : va_K (dC, dI) vwCl [(a_2, .int), (a_4, .int)] s := hK
  refine W.widen (k := 2) (n := 28) (Nat.le_of_ble_eq_true rfl) (Nat.le_of_ble_eq_true rfl) ?_
  refine va_putF (D := (dC, dI)) (ci := 2) (v := .ref q_3) (ty := .array .int) (C := RX2) (T := TX2) (N := 6) hx hb hts zn_X2_init_X2 tyX2 tyX2_ok nmX2 hown hK hP hD hS 0 rfl rfl 4 (by decide) (hts (.fieldLink RX2 15 "ShortEnough$Groups" "fixedAs" "[I") zw_X2_init_83) (fun _ h9 => h9) rfl hin rfl (by decide +kernel) rfl rfl (Nat.le_of_ble_eq_true rfl) dX2_init_17 ?_
  clear hP hD hS
  intro H locs hP hD hS
  replace hP : va_P (dC, dI) vwCl [(h0, .inr (2, [.int 0, .int 0, .int 0, .ref q_1, .ref q_3, .null])), zVi q_1 a_2 14 (fun _ => 0), zVi q_3 a_4 14 (fun _ => 0)] H := hP
  replace hD := zDW hD hP rfl
  refine lv_aload_n hx hb dX2_init_20 rfl (lv_at hl 0 rfl) ?_
  refine lv_bipush (v := 14) hx hb dX2_init_21 zcb_14 ?_
  refine va_newa (atype := .int) (ty := .int) (N' := 14) (a0 := (14, .inl (fun _ => 0))) hx hb (hts (.arrayClass .int) zw_X2_init_80) rfl hK hP hD hS hA (fun _ => rfl) (by decide +kernel) (by decide +kernel) (Nat.le_of_ble_eq_true rfl) (Nat.le_of_ble_eq_true rfl) (Nat.le_of_ble_eq_true rfl) dX2_init_23 (fun q_5 a_6 H hK hP hD hS => ?_)
  replace hP : va_P (dC, dI) vwCl [(h0, .inr (2, [.int 0, .int 0, .int 0, .ref q_1, .ref q_3, .null])), zVi q_1 a_2 14 (fun _ => 0), zVi q_3 a_4 14 (fun _ => 0), zVi q_5 a_6 14 (fun _ => 0)] H := hP
  replace hD := zDW hD hP rfl
  replace hK : va_K (dC, dI) vwCl [(a_2, .int), (a_4, .int), (a_6, .int)] s := hK
  refine W.widen (k := 3) (n := 42) (Nat.le_of_ble_eq_true rfl) (Nat.le_of_ble_eq_true rfl) ?_
  refine va_putF (D := (dC, dI)) (ci := 2) (v := .ref q_5) (ty := .array .int) (C := RX2) (T := TX2) (N := 6) hx hb hts zn_X2_init_X2 tyX2 tyX2_ok nmX2 hown hK hP hD hS 0 rfl rfl 5 (by decide) (hts (.fieldLink RX2 18 "ShortEnough$Groups" "leader" "[I") zw_X2_init_84) (fun _ h9 => h9) rfl hin rfl (by decide +kernel) rfl rfl (Nat.le_of_ble_eq_true rfl) dX2_init_25 ?_
  clear hP hD hS
  intro H locs hP hD hS
  replace hP : va_P (dC, dI) vwCl [zV2 h0 0 0 0 q_1 q_3 q_5, zVi q_1 a_2 14 (fun _ => 0), zVi q_3 a_4 14 (fun _ => 0), zVi q_5 a_6 14 (fun _ => 0)] H := hP
  replace hD := zDW hD hP rfl
  have hP9 := hP.sub (ws' := [zV2 h0 0 0 0 q_1 q_3 q_5, zVi q_1 a_2 14 (fun _ => 0), zVi q_3 a_4 14 (fun _ => 0), zVi q_5 a_6 14 (fun _ => 0)]) [0, 1, 2, 3] rfl
  have hD9 := hD.sub (ws' := [zV2 h0 0 0 0 q_1 q_3 q_5, zVi q_1 a_2 14 (fun _ => 0), zVi q_3 a_4 14 (fun _ => 0), zVi q_5 a_6 14 (fun _ => 0)]) [0, 1, 2, 3] (by decide) rfl
  have hK9 := hK.sub (tys' := [(a_2, .int), (a_4, .int), (a_6, .int)]) [0, 1, 2] rfl
  refine W.widen (k := 3) (n := 42) (Nat.le_of_ble_eq_true rfl) (Nat.le_of_ble_eq_true rfl) ?_
  exact W.vret hx hb hr (fun t ht hW => ⟨⟨((fun k => ([q_1, q_3, q_5, a_2, a_4, a_6] : List Nat).getD k 0), (fun k => ([] : List (Nat → Int32)).getD k (fun _ => 0))), rfl, trivial, by rw [ht]; exact hP9, va_K.moved hW.alike hK9, hD9⟩, hS.F ht⟩) hS.2.2 dX2_init_28
set_option maxHeartbeats 4000000 in
set_option maxRecDepth 100000 in
theorem zc11_X6_init (l : Launch) (dC : Nat → ClassId) (dI : Nat → Nat → Nat) (h0 : Nat) (sz : Nat) : Met l yX6_init wsX6_init ({ frames := 1, cells := 3, slots := 42, locals := 20 }) (va_Pc [.ref h0] (fun U => U.heap.size = sz ∧ va_P (dC, dI) vwCl [(h0, .inr (6, [.null, .null, .null]))] U.heap ∧ va_K (dC, dI) vwCl [] U ∧ va_D (fun _ => True) [(h0, .inr (6, [.null, .null, .null]))])) (va_Qv (fun (u : zU) => True) (fun u t => va_P (dC, dI) vwCl [zV6 h0 (u.1 0) (u.1 1) (u.1 2), zVl (u.1 0) (u.1 3) 14 (fun _ => 0), zVl (u.1 1) (u.1 4) 14 (fun _ => 0), zVi (u.1 2) (u.1 5) 14 (fun _ => 0)] t.heap ∧ va_K (dC, dI) vwCl [((u.1 3), .long), ((u.1 4), .long), ((u.1 5), .boolean)] t ∧ va_D (va_A [(h0, .inr (6, [.null, .null, .null]))] sz) [zV6 h0 (u.1 0) (u.1 1) (u.1 2), zVl (u.1 0) (u.1 3) 14 (fun _ => 0), zVl (u.1 1) (u.1 4) 14 (fun _ => 0), zVi (u.1 2) (u.1 5) 14 (fun _ => 0)]) (va_A [(h0, .inr (6, [.null, .null, .null]))] sz)) 3 42 (va_A [(h0, .inr (6, [.null, .null, .null]))] sz) := by
  refine Met.ofW (cc := cX6_init) (maxL := 1) (ret := none) (by decide +kernel) rfl ?_
  intro p e s m args below meth c s₁ B hml hv
  obtain ⟨rfl, hsz, hP, hK, hD0⟩ := hv
  have hx := B.exec
  have hb := B.bytes
  have hr := B.returns
  have hts := atoms_spec (ws := wsX6_init) B.pre
  have hown : s.vm.findClass RX6 = some m.cls := (findClass_of_methodNamed B.named :)
  have hlocks := B.notSynchronized
  have hin : meth.name = "<init>" := (name_of_methodNamed B.named B.method).1
  subst hsz
  replace hD := hD0.self (sz := s.heap.size)
  generalize hAe : va_A [(h0, .inr (6, [.null, .null, .null]))] s.heap.size = A at hD ⊢
  have hA : ∀ q : Nat, s.heap.size ≤ q → A q := fun q h => by rw [← hAe]; exact Or.inr h
  have hS : va_S A s.heap s.heap [] := va_S.rf
  replace hP : va_P (dC, dI) vwCl [(h0, .inr (6, [.null, .null, .null]))] s.heap := hP
  have hl := lv_entry ([.ref h0]) (n := 1) (Nat.le_of_ble_eq_true rfl)
  rw [lg_entry_eq]
  generalize (lg_sl ([.ref h0]) ++ List.replicate (1 - (lg_sl ([.ref h0])).length) Slot.unset).toArray = ls at hl ⊢
  have hl : lv_has ls 1 [(0, .ref h0)] := hl
  refine lv_aload_n hx hb dX6_init_0 rfl (lv_at hl 0 rfl) ?_
  refine W.objInit hx hb hown (hts (.methodLink RX6 3 objectInit) zw_X6_init_91) (hts (.instanceMethod objectInit) zw_X6_init_92) (hts (.code objectInit ⟨#[0xb1]⟩ 1 none) zw_X6_init_93) rfl (by rw [hml]; exact hl.1) rfl dX6_init_1 (Nat.le_of_ble_eq_true rfl) (Nat.le_of_ble_eq_true rfl) ?_
  refine W.eq (g2 := F0 m 4 ls []) rfl ?_
  refine lv_aload_n hx hb dX6_init_4 rfl (lv_at hl 0 rfl) ?_
  refine lv_bipush (v := 14) hx hb dX6_init_5 zcb_14 ?_
  refine va_newa (atype := .long) (ty := .long) (N' := 14) (a0 := (14, .inr (.inl (fun _ => 0)))) hx hb (hts (.arrayClass .long) zw_X6_init_94) rfl hK hP hD hS hA (fun _ => rfl) (by decide +kernel) (by decide +kernel) (Nat.le_of_ble_eq_true rfl) (Nat.le_of_ble_eq_true rfl) (Nat.le_of_ble_eq_true rfl) dX6_init_7 (fun q_1 a_2 H hK hP hD hS => ?_)
  replace hP : va_P (dC, dI) vwCl [(h0, .inr (6, [.null, .null, .null])), zVl q_1 a_2 14 (fun _ => 0)] H := hP
  replace hD := zDW hD hP rfl
  replace hK : va_K (dC, dI) vwCl [(a_2, .long)] s := hK
  refine W.widen (k := 1) (n := 14) (Nat.le_of_ble_eq_true rfl) (Nat.le_of_ble_eq_true rfl) ?_
  refine va_putF (D := (dC, dI)) (ci := 6) (v := .ref q_1) (ty := .array .long) (C := RX6) (T := TX6) (N := 3) hx hb hts zn_X6_init_X6 tyX6 tyX6_ok nmX6 hown hK hP hD hS 0 rfl rfl 0 (by decide) (hts (.fieldLink RX6 9 "ShortEnough$Ranges" "low" "[J") zw_X6_init_96) (fun _ h9 => h9) rfl hin rfl (by decide +kernel) rfl rfl (Nat.le_of_ble_eq_true rfl) dX6_init_9 ?_
  clear hP hD hS
  intro H locs hP hD hS
  replace hP : va_P (dC, dI) vwCl [(h0, .inr (6, [.ref q_1, .null, .null])), zVl q_1 a_2 14 (fun _ => 0)] H := hP
  replace hD := zDW hD hP rfl
  refine lv_aload_n hx hb dX6_init_12 rfl (lv_at hl 0 rfl) ?_
  refine lv_bipush (v := 14) hx hb dX6_init_13 zcb_14 ?_
  refine va_newa (atype := .long) (ty := .long) (N' := 14) (a0 := (14, .inr (.inl (fun _ => 0)))) hx hb (hts (.arrayClass .long) zw_X6_init_94) rfl hK hP hD hS hA (fun _ => rfl) (by decide +kernel) (by decide +kernel) (Nat.le_of_ble_eq_true rfl) (Nat.le_of_ble_eq_true rfl) (Nat.le_of_ble_eq_true rfl) dX6_init_15 (fun q_3 a_4 H hK hP hD hS => ?_)
  replace hP : va_P (dC, dI) vwCl [(h0, .inr (6, [.ref q_1, .null, .null])), zVl q_1 a_2 14 (fun _ => 0), zVl q_3 a_4 14 (fun _ => 0)] H := hP
  replace hD := zDW hD hP rfl
  replace hK : va_K (dC, dI) vwCl [(a_2, .long), (a_4, .long)] s := hK
  refine W.widen (k := 2) (n := 28) (Nat.le_of_ble_eq_true rfl) (Nat.le_of_ble_eq_true rfl) ?_
  refine va_putF (D := (dC, dI)) (ci := 6) (v := .ref q_3) (ty := .array .long) (C := RX6) (T := TX6) (N := 3) hx hb hts zn_X6_init_X6 tyX6 tyX6_ok nmX6 hown hK hP hD hS 0 rfl rfl 1 (by decide) (hts (.fieldLink RX6 15 "ShortEnough$Ranges" "high" "[J") zw_X6_init_97) (fun _ h9 => h9) rfl hin rfl (by decide +kernel) rfl rfl (Nat.le_of_ble_eq_true rfl) dX6_init_17 ?_
  clear hP hD hS
  intro H locs hP hD hS
  replace hP : va_P (dC, dI) vwCl [(h0, .inr (6, [.ref q_1, .ref q_3, .null])), zVl q_1 a_2 14 (fun _ => 0), zVl q_3 a_4 14 (fun _ => 0)] H := hP
  replace hD := zDW hD hP rfl
  refine lv_aload_n hx hb dX6_init_20 rfl (lv_at hl 0 rfl) ?_
  refine lv_bipush (v := 14) hx hb dX6_init_21 zcb_14 ?_
  refine va_newa (atype := .boolean) (ty := .boolean) (N' := 14) (a0 := (14, .inl (fun _ => 0))) hx hb (hts (.arrayClass .boolean) zw_X6_init_98) rfl hK hP hD hS hA (fun _ => rfl) (by decide +kernel) (by decide +kernel) (Nat.le_of_ble_eq_true rfl) (Nat.le_of_ble_eq_true rfl) (Nat.le_of_ble_eq_true rfl) dX6_init_23 (fun q_5 a_6 H hK hP hD hS => ?_)
  replace hP : va_P (dC, dI) vwCl [(h0, .inr (6, [.ref q_1, .ref q_3, .null])), zVl q_1 a_2 14 (fun _ => 0), zVl q_3 a_4 14 (fun _ => 0), zVi q_5 a_6 14 (fun _ => 0)] H := hP
  replace hD := zDW hD hP rfl
  replace hK : va_K (dC, dI) vwCl [(a_2, .long), (a_4, .long), (a_6, .boolean)] s := hK
  refine W.widen (k := 3) (n := 42) (Nat.le_of_ble_eq_true rfl) (Nat.le_of_ble_eq_true rfl) ?_
  refine va_putF (D := (dC, dI)) (ci := 6) (v := .ref q_5) (ty := .array .boolean) (C := RX6) (T := TX6) (N := 3) hx hb hts zn_X6_init_X6 tyX6 tyX6_ok nmX6 hown hK hP hD hS 0 rfl rfl 2 (by decide) (hts (.fieldLink RX6 18 "ShortEnough$Ranges" "wide" "[Z") zw_X6_init_99) (fun _ h9 => h9) rfl hin rfl (by decide +kernel) rfl rfl (Nat.le_of_ble_eq_true rfl) dX6_init_25 ?_
  clear hP hD hS
  intro H locs hP hD hS
  replace hP : va_P (dC, dI) vwCl [zV6 h0 q_1 q_3 q_5, zVl q_1 a_2 14 (fun _ => 0), zVl q_3 a_4 14 (fun _ => 0), zVi q_5 a_6 14 (fun _ => 0)] H := hP
  replace hD := zDW hD hP rfl
  have hP9 := hP.sub (ws' := [zV6 h0 q_1 q_3 q_5, zVl q_1 a_2 14 (fun _ => 0), zVl q_3 a_4 14 (fun _ => 0), zVi q_5 a_6 14 (fun _ => 0)]) [0, 1, 2, 3] rfl
  have hD9 := hD.sub (ws' := [zV6 h0 q_1 q_3 q_5, zVl q_1 a_2 14 (fun _ => 0), zVl q_3 a_4 14 (fun _ => 0), zVi q_5 a_6 14 (fun _ => 0)]) [0, 1, 2, 3] (by decide) rfl
  have hK9 := hK.sub (tys' := [(a_2, .long), (a_4, .long), (a_6, .boolean)]) [0, 1, 2] rfl
  refine W.widen (k := 3) (n := 42) (Nat.le_of_ble_eq_true rfl) (Nat.le_of_ble_eq_true rfl) ?_
  exact W.vret hx hb hr (fun t ht hW => ⟨⟨((fun k => ([q_1, q_3, q_5, a_2, a_4, a_6] : List Nat).getD k 0), (fun k => ([] : List (Nat → Int32)).getD k (fun _ => 0))), rfl, trivial, by rw [ht]; exact hP9, va_K.moved hW.alike hK9, hD9⟩, hS.F ht⟩) hS.2.2 dX6_init_28
set_option maxHeartbeats 4000000 in
set_option maxRecDepth 100000 in
theorem zc12_X9_init (l : Launch) (dC : Nat → ClassId) (dI : Nat → Nat → Nat) (h0 : Nat) (sz : Nat) : Met l yX9_init wsX9_init ({ frames := 2, cells := 21, slots := 259, locals := 40 }) (va_Pc [.ref h0] (fun U => va_Nw (.methodLinkNest RX9 26 yX4_init RX11) U ∧ va_Nw (.methodLinkNest RX9 33 yX2_init RX11) U ∧ va_Nw (.methodLinkNest RX9 40 yX6_init RX11) U ∧ U.heap.size = sz ∧ va_P (dC, dI) vwCl [(h0, .inr (9, [.int 0, .null, .null, .null, .null, .int 0, .null, .null, .null]))] U.heap ∧ va_K (dC, dI) vwCl [] U ∧ va_D (fun _ => True) [(h0, .inr (9, [.int 0, .null, .null, .null, .null, .int 0, .null, .null, .null]))])) (va_Qv (fun (u : zU) => True) (fun u t => va_P (dC, dI) vwCl [zV9 h0 0 (u.1 0) (u.1 1) (u.1 2) (u.1 3) 0 (u.1 4) (u.1 5) (u.1 6), zVi (u.1 0) (u.1 7) 4 (fun _ => 0), zVi (u.1 1) (u.1 8) 4 (fun _ => 0), zVi (u.1 2) (u.1 9) 4 (fun _ => 0), zVi (u.1 3) (u.1 10) 4 (fun _ => 0), zV4 (u.1 4) 0 0 (u.1 11) (u.1 12) (u.1 13) (u.1 14) (u.1 15) (u.1 16) (u.1 17) (u.1 18), zVi (u.1 11) (u.1 19) 14 (fun _ => 0), zVi (u.1 12) (u.1 20) 14 (fun _ => 0), zVi (u.1 13) (u.1 21) 14 (fun _ => 0), zVi (u.1 14) (u.1 22) 14 (fun _ => 0), zVi (u.1 15) (u.1 23) 14 (fun _ => 0), zVi (u.1 16) (u.1 24) 14 (fun _ => 0), zVi (u.1 17) (u.1 25) 28 (fun _ => 0), zVi (u.1 18) (u.1 26) 28 (fun _ => 0), zV2 (u.1 5) 0 0 0 (u.1 27) (u.1 28) (u.1 29), zVi (u.1 27) (u.1 30) 14 (fun _ => 0), zVi (u.1 28) (u.1 31) 14 (fun _ => 0), zVi (u.1 29) (u.1 32) 14 (fun _ => 0), zV6 (u.1 6) (u.1 33) (u.1 34) (u.1 35), zVl (u.1 33) (u.1 36) 14 (fun _ => 0), zVl (u.1 34) (u.1 37) 14 (fun _ => 0), zVi (u.1 35) (u.1 38) 14 (fun _ => 0)] t.heap ∧ va_K (dC, dI) vwCl [((u.1 7), .int), ((u.1 8), .int), ((u.1 9), .int), ((u.1 10), .int), ((u.1 19), .int), ((u.1 20), .int), ((u.1 21), .int), ((u.1 22), .int), ((u.1 23), .int), ((u.1 24), .int), ((u.1 25), .int), ((u.1 26), .int), ((u.1 30), .int), ((u.1 31), .int), ((u.1 32), .int), ((u.1 36), .long), ((u.1 37), .long), ((u.1 38), .boolean)] t ∧ va_D (va_A [(h0, .inr (9, [.int 0, .null, .null, .null, .null, .int 0, .null, .null, .null]))] sz) [zV9 h0 0 (u.1 0) (u.1 1) (u.1 2) (u.1 3) 0 (u.1 4) (u.1 5) (u.1 6), zVi (u.1 0) (u.1 7) 4 (fun _ => 0), zVi (u.1 1) (u.1 8) 4 (fun _ => 0), zVi (u.1 2) (u.1 9) 4 (fun _ => 0), zVi (u.1 3) (u.1 10) 4 (fun _ => 0), zV4 (u.1 4) 0 0 (u.1 11) (u.1 12) (u.1 13) (u.1 14) (u.1 15) (u.1 16) (u.1 17) (u.1 18), zVi (u.1 11) (u.1 19) 14 (fun _ => 0), zVi (u.1 12) (u.1 20) 14 (fun _ => 0), zVi (u.1 13) (u.1 21) 14 (fun _ => 0), zVi (u.1 14) (u.1 22) 14 (fun _ => 0), zVi (u.1 15) (u.1 23) 14 (fun _ => 0), zVi (u.1 16) (u.1 24) 14 (fun _ => 0), zVi (u.1 17) (u.1 25) 28 (fun _ => 0), zVi (u.1 18) (u.1 26) 28 (fun _ => 0), zV2 (u.1 5) 0 0 0 (u.1 27) (u.1 28) (u.1 29), zVi (u.1 27) (u.1 30) 14 (fun _ => 0), zVi (u.1 28) (u.1 31) 14 (fun _ => 0), zVi (u.1 29) (u.1 32) 14 (fun _ => 0), zV6 (u.1 6) (u.1 33) (u.1 34) (u.1 35), zVl (u.1 33) (u.1 36) 14 (fun _ => 0), zVl (u.1 34) (u.1 37) 14 (fun _ => 0), zVi (u.1 35) (u.1 38) 14 (fun _ => 0)]) (va_A [(h0, .inr (9, [.int 0, .null, .null, .null, .null, .int 0, .null, .null, .null]))] sz)) 21 259 (va_A [(h0, .inr (9, [.int 0, .null, .null, .null, .null, .int 0, .null, .null, .null]))] sz) := by
  refine Met.ofW (cc := cX9_init) (maxL := 1) (ret := none) (by decide +kernel) rfl ?_
  intro p e s m args below meth c s₁ B hml hv
  obtain ⟨rfl, hn0, hn1, hn2, hsz, hP, hK, hD0⟩ := hv
  have hx := B.exec
  have hb := B.bytes
  have hr := B.returns
  have hts := atoms_spec (ws := wsX9_init) B.pre
  have hown : s.vm.findClass RX9 = some m.cls := (findClass_of_methodNamed B.named :)
  have hlocks := B.notSynchronized
  have hin : meth.name = "<init>" := (name_of_methodNamed B.named B.method).1
  subst hsz
  replace hD := hD0.self (sz := s.heap.size)
  generalize hAe : va_A [(h0, .inr (9, [.int 0, .null, .null, .null, .null, .int 0, .null, .null, .null]))] s.heap.size = A at hD ⊢
  have hA : ∀ q : Nat, s.heap.size ≤ q → A q := fun q h => by rw [← hAe]; exact Or.inr h
  have hS : va_S A s.heap s.heap [] := va_S.rf
  replace hP : va_P (dC, dI) vwCl [(h0, .inr (9, [.int 0, .null, .null, .null, .null, .int 0, .null, .null, .null]))] s.heap := hP
  have hl := lv_entry ([.ref h0]) (n := 1) (Nat.le_of_ble_eq_true rfl)
  rw [lg_entry_eq]
  generalize (lg_sl ([.ref h0]) ++ List.replicate (1 - (lg_sl ([.ref h0])).length) Slot.unset).toArray = ls at hl ⊢
  have hl : lv_has ls 1 [(0, .ref h0)] := hl
  refine lv_aload_n hx hb dX9_init_0 rfl (lv_at hl 0 rfl) ?_
  refine W.objInit hx hb hown (hts (.methodLink RX9 3 objectInit) zw_X9_init_45) (hts (.instanceMethod objectInit) zw_X9_init_46) (hts (.code objectInit ⟨#[0xb1]⟩ 1 none) zw_X9_init_47) rfl (by rw [hml]; exact hl.1) rfl dX9_init_1 (Nat.le_of_ble_eq_true rfl) (Nat.le_of_ble_eq_true rfl) ?_
  refine W.eq (g2 := F0 m 4 ls []) rfl ?_
  refine lv_aload_n hx hb dX9_init_4 rfl (lv_at hl 0 rfl) ?_
  refine lv_iconst (v := 4) hx hb dX9_init_5 zci_4 ?_
  refine va_newa (atype := .int) (ty := .int) (N' := 4) (a0 := (4, .inl (fun _ => 0))) hx hb (hts (.arrayClass .int) zw_X9_init_48) rfl hK hP hD hS hA (fun _ => rfl) (by decide +kernel) (by decide +kernel) (Nat.le_of_ble_eq_true rfl) (Nat.le_of_ble_eq_true rfl) (Nat.le_of_ble_eq_true rfl) dX9_init_6 (fun q_1 a_2 H hK hP hD hS => ?_)
  replace hP : va_P (dC, dI) vwCl [(h0, .inr (9, [.int 0, .null, .null, .null, .null, .int 0, .null, .null, .null])), zVi q_1 a_2 4 (fun _ => 0)] H := hP
  replace hD := zDW hD hP rfl
  replace hK : va_K (dC, dI) vwCl [(a_2, .int)] s := hK
  refine W.widen (k := 1) (n := 4) (Nat.le_of_ble_eq_true rfl) (Nat.le_of_ble_eq_true rfl) ?_
  refine va_putF (D := (dC, dI)) (ci := 9) (v := .ref q_1) (ty := .array .int) (C := RX9) (T := TX9) (N := 9) hx hb hts zn_X9_init_X9 tyX9 tyX9_ok nmX9 hown hK hP hD hS 0 rfl rfl 1 (by decide) (hts (.fieldLink RX9 9 "ShortEnough$Task" "formatName" "[I") zw_X9_init_50) (fun _ h9 => h9) rfl hin rfl (by decide +kernel) rfl rfl (Nat.le_of_ble_eq_true rfl) dX9_init_8 ?_
  clear hP hD hS
  intro H locs hP hD hS
  replace hP : va_P (dC, dI) vwCl [(h0, .inr (9, [.int 0, .ref q_1, .null, .null, .null, .int 0, .null, .null, .null])), zVi q_1 a_2 4 (fun _ => 0)] H := hP
  replace hD := zDW hD hP rfl
  refine lv_aload_n hx hb dX9_init_11 rfl (lv_at hl 0 rfl) ?_
  refine lv_iconst (v := 4) hx hb dX9_init_12 zci_4 ?_
  refine va_newa (atype := .int) (ty := .int) (N' := 4) (a0 := (4, .inl (fun _ => 0))) hx hb (hts (.arrayClass .int) zw_X9_init_48) rfl hK hP hD hS hA (fun _ => rfl) (by decide +kernel) (by decide +kernel) (Nat.le_of_ble_eq_true rfl) (Nat.le_of_ble_eq_true rfl) (Nat.le_of_ble_eq_true rfl) dX9_init_13 (fun q_3 a_4 H hK hP hD hS => ?_)
  replace hP : va_P (dC, dI) vwCl [(h0, .inr (9, [.int 0, .ref q_1, .null, .null, .null, .int 0, .null, .null, .null])), zVi q_1 a_2 4 (fun _ => 0), zVi q_3 a_4 4 (fun _ => 0)] H := hP
  replace hD := zDW hD hP rfl
  replace hK : va_K (dC, dI) vwCl [(a_2, .int), (a_4, .int)] s := hK
  refine W.widen (k := 2) (n := 8) (Nat.le_of_ble_eq_true rfl) (Nat.le_of_ble_eq_true rfl) ?_
  refine va_putF (D := (dC, dI)) (ci := 9) (v := .ref q_3) (ty := .array .int) (C := RX9) (T := TX9) (N := 9) hx hb hts zn_X9_init_X9 tyX9 tyX9_ok nmX9 hown hK hP hD hS 0 rfl rfl 2 (by decide) (hts (.fieldLink RX9 15 "ShortEnough$Task" "step" "[I") zw_X9_init_51) (fun _ h9 => h9) rfl hin rfl (by decide +kernel) rfl rfl (Nat.le_of_ble_eq_true rfl) dX9_init_15 ?_
  clear hP hD hS
  intro H locs hP hD hS
  replace hP : va_P (dC, dI) vwCl [(h0, .inr (9, [.int 0, .ref q_1, .ref q_3, .null, .null, .int 0, .null, .null, .null])), zVi q_1 a_2 4 (fun _ => 0), zVi q_3 a_4 4 (fun _ => 0)] H := hP
  replace hD := zDW hD hP rfl
  refine lv_aload_n hx hb dX9_init_18 rfl (lv_at hl 0 rfl) ?_
  refine lv_iconst (v := 4) hx hb dX9_init_19 zci_4 ?_
  refine va_newa (atype := .int) (ty := .int) (N' := 4) (a0 := (4, .inl (fun _ => 0))) hx hb (hts (.arrayClass .int) zw_X9_init_48) rfl hK hP hD hS hA (fun _ => rfl) (by decide +kernel) (by decide +kernel) (Nat.le_of_ble_eq_true rfl) (Nat.le_of_ble_eq_true rfl) (Nat.le_of_ble_eq_true rfl) dX9_init_20 (fun q_5 a_6 H hK hP hD hS => ?_)
  replace hP : va_P (dC, dI) vwCl [(h0, .inr (9, [.int 0, .ref q_1, .ref q_3, .null, .null, .int 0, .null, .null, .null])), zVi q_1 a_2 4 (fun _ => 0), zVi q_3 a_4 4 (fun _ => 0), zVi q_5 a_6 4 (fun _ => 0)] H := hP
  replace hD := zDW hD hP rfl
  replace hK : va_K (dC, dI) vwCl [(a_2, .int), (a_4, .int), (a_6, .int)] s := hK
  refine W.widen (k := 3) (n := 12) (Nat.le_of_ble_eq_true rfl) (Nat.le_of_ble_eq_true rfl) ?_
  refine va_putF (D := (dC, dI)) (ci := 9) (v := .ref q_5) (ty := .array .int) (C := RX9) (T := TX9) (N := 9) hx hb hts zn_X9_init_X9 tyX9 tyX9_ok nmX9 hown hK hP hD hS 0 rfl rfl 3 (by decide) (hts (.fieldLink RX9 18 "ShortEnough$Task" "most" "[I") zw_X9_init_52) (fun _ h9 => h9) rfl hin rfl (by decide +kernel) rfl rfl (Nat.le_of_ble_eq_true rfl) dX9_init_22 ?_
  clear hP hD hS
  intro H locs hP hD hS
  replace hP : va_P (dC, dI) vwCl [(h0, .inr (9, [.int 0, .ref q_1, .ref q_3, .ref q_5, .null, .int 0, .null, .null, .null])), zVi q_1 a_2 4 (fun _ => 0), zVi q_3 a_4 4 (fun _ => 0), zVi q_5 a_6 4 (fun _ => 0)] H := hP
  replace hD := zDW hD hP rfl
  refine lv_aload_n hx hb dX9_init_25 rfl (lv_at hl 0 rfl) ?_
  refine lv_iconst (v := 4) hx hb dX9_init_26 zci_4 ?_
  refine va_newa (atype := .int) (ty := .int) (N' := 4) (a0 := (4, .inl (fun _ => 0))) hx hb (hts (.arrayClass .int) zw_X9_init_48) rfl hK hP hD hS hA (fun _ => rfl) (by decide +kernel) (by decide +kernel) (Nat.le_of_ble_eq_true rfl) (Nat.le_of_ble_eq_true rfl) (Nat.le_of_ble_eq_true rfl) dX9_init_27 (fun q_7 a_8 H hK hP hD hS => ?_)
  replace hP : va_P (dC, dI) vwCl [(h0, .inr (9, [.int 0, .ref q_1, .ref q_3, .ref q_5, .null, .int 0, .null, .null, .null])), zVi q_1 a_2 4 (fun _ => 0), zVi q_3 a_4 4 (fun _ => 0), zVi q_5 a_6 4 (fun _ => 0), zVi q_7 a_8 4 (fun _ => 0)] H := hP
  replace hD := zDW hD hP rfl
  replace hK : va_K (dC, dI) vwCl [(a_2, .int), (a_4, .int), (a_6, .int), (a_8, .int)] s := hK
  refine W.widen (k := 4) (n := 16) (Nat.le_of_ble_eq_true rfl) (Nat.le_of_ble_eq_true rfl) ?_
  refine va_putF (D := (dC, dI)) (ci := 9) (v := .ref q_7) (ty := .array .int) (C := RX9) (T := TX9) (N := 9) hx hb hts zn_X9_init_X9 tyX9 tyX9_ok nmX9 hown hK hP hD hS 0 rfl rfl 4 (by decide) (hts (.fieldLink RX9 21 "ShortEnough$Task" "price" "[I") zw_X9_init_53) (fun _ h9 => h9) rfl hin rfl (by decide +kernel) rfl rfl (Nat.le_of_ble_eq_true rfl) dX9_init_29 ?_
  clear hP hD hS
  intro H locs hP hD hS
  replace hP : va_P (dC, dI) vwCl [(h0, .inr (9, [.int 0, .ref q_1, .ref q_3, .ref q_5, .ref q_7, .int 0, .null, .null, .null])), zVi q_1 a_2 4 (fun _ => 0), zVi q_3 a_4 4 (fun _ => 0), zVi q_5 a_6 4 (fun _ => 0), zVi q_7 a_8 4 (fun _ => 0)] H := hP
  replace hD := zDW hD hP rfl
  refine lv_aload_n hx hb dX9_init_32 rfl (lv_at hl 0 rfl) ?_
  refine va_new (ci := 4) (fs := [.int 0, .int 0, .null, .null, .null, .null, .null, .null, .null, .null]) (C := RX4) (T := TX4) (N := 10) hx hb hts zn_X9_init_X4 tyX4 tyX4_ok hown (hts (.classLink RX9 24 RX4) zw_X9_init_55) (hts (.instantiable RX4 10) zw_X9_init_56) (hts (.initialized RX4) zw_X9_init_57) hK hP hD hS hA rfl zd_X4 (Nat.le_of_ble_eq_true rfl) (Nat.le_of_ble_eq_true rfl) dX9_init_33 (fun q_9 H hP hD hS => ?_)
  replace hP : va_P (dC, dI) vwCl [(h0, .inr (9, [.int 0, .ref q_1, .ref q_3, .ref q_5, .ref q_7, .int 0, .null, .null, .null])), zVi q_1 a_2 4 (fun _ => 0), zVi q_3 a_4 4 (fun _ => 0), zVi q_5 a_6 4 (fun _ => 0), zVi q_7 a_8 4 (fun _ => 0), (q_9, .inr (4, [.int 0, .int 0, .null, .null, .null, .null, .null, .null, .null, .null]))] H := hP
  replace hD := zDW hD hP rfl
  refine W.widen (k := 5) (n := 26) (Nat.le_of_ble_eq_true rfl) (Nat.le_of_ble_eq_true rfl) ?_
  refine lv_dup hx hb dX9_init_36 rfl ?_
  replace hPc := hP.sub (ws' := [(q_9, .inr (4, [.int 0, .int 0, .null, .null, .null, .null, .null, .null, .null, .null]))]) [5] rfl
  replace hDc := hD.sub (ws' := [(q_9, .inr (4, [.int 0, .int 0, .null, .null, .null, .null, .null, .null, .null, .null]))]) [5] (by decide) rfl
  replace hKc := hK.sub (tys' := []) [] rfl
  replace hFc := va_free (wc := [(q_9, .inr (4, [.int 0, .int 0, .null, .null, .null, .null, .null, .null, .null, .null]))]) hD hS hA [5] rfl
  refine va_callv (va_runIN (As := []) (rest := [.ref q_9, .ref h0]) ⟨hx, hb, hml, hown, hts⟩ (zc9_X4_init l dC dI q_9 H.size) ⟨va_cnB (host := RX11) 0 hts gX9_init_X4_init_n26 rfl rfl rfl hn0 (hts (.initialized RX4) zw_X9_init_57) (by decide +kernel) ⟨Nat.le_of_ble_eq_true rfl, Nat.le_of_ble_eq_true rfl⟩, rfl, (hts (.instanceMethod yX4_init) zw_X9_init_71)⟩ ⟨fun a U g mk q => by obtain ⟨q0, q1, qP, qK, qD⟩ := q; exact ⟨q0, q1, qP, va_K.moved (u := U) (U := U.calling g mk a) (Vm.Alike.refl U.vm) qK, qD⟩, fun U hU hW => ⟨rfl, by rw [hU], by rw [hU]; exact hPc, va_K.moved hW.alike hKc, hDc.weaken (fun _ _ _ _ => trivial)⟩⟩ rfl rfl hl.1 rfl (lv_room (Nat.le_of_ble_eq_true rfl)) dX9_init_37 ⟨Nat.le_of_ble_eq_true rfl, Nat.le_of_ble_eq_true rfl⟩) hS (fun q _ h => hFc q h) hFc (fun u_11 t H1 locs ht hvm hw_12 hB hz1 hk1 hS => ?_)
  obtain ⟨hP1, hK1, hD1⟩ := hB
  rw [ht] at hP1
  replace hK1 := va_K.moved hvm.symm hK1
  obtain ⟨hP, hD⟩ := va_join (wr := [(h0, .inr (9, [.int 0, .ref q_1, .ref q_3, .ref q_5, .ref q_7, .int 0, .null, .null, .null])), zVi q_1 a_2 4 (fun _ => 0), zVi q_3 a_4 4 (fun _ => 0), zVi q_5 a_6 4 (fun _ => 0), zVi q_7 a_8 4 (fun _ => 0)]) (w1 := [zV4 q_9 0 0 (u_11.1 0) (u_11.1 1) (u_11.1 2) (u_11.1 3) (u_11.1 4) (u_11.1 5) (u_11.1 6) (u_11.1 7), zVi (u_11.1 0) (u_11.1 8) 14 (fun _ => 0), zVi (u_11.1 1) (u_11.1 9) 14 (fun _ => 0), zVi (u_11.1 2) (u_11.1 10) 14 (fun _ => 0), zVi (u_11.1 3) (u_11.1 11) 14 (fun _ => 0), zVi (u_11.1 4) (u_11.1 12) 14 (fun _ => 0), zVi (u_11.1 5) (u_11.1 13) 14 (fun _ => 0), zVi (u_11.1 6) (u_11.1 14) 28 (fun _ => 0), zVi (u_11.1 7) (u_11.1 15) 28 (fun _ => 0)]) hP hD [5] [0, 1, 2, 3, 4] rfl rfl (by decide) (by decide) hk1 hFc hP1 hD1
  replace hK := hK.app hK1
  generalize H1 = H at hP hS ⊢
  replace hP : va_P (dC, dI) vwCl [(h0, .inr (9, [.int 0, .ref q_1, .ref q_3, .ref q_5, .ref q_7, .int 0, .null, .null, .null])), zVi q_1 a_2 4 (fun _ => 0), zVi q_3 a_4 4 (fun _ => 0), zVi q_5 a_6 4 (fun _ => 0), zVi q_7 a_8 4 (fun _ => 0), zV4 q_9 0 0 (u_11.1 0) (u_11.1 1) (u_11.1 2) (u_11.1 3) (u_11.1 4) (u_11.1 5) (u_11.1 6) (u_11.1 7), zVi (u_11.1 0) (u_11.1 8) 14 (fun _ => 0), zVi (u_11.1 1) (u_11.1 9) 14 (fun _ => 0), zVi (u_11.1 2) (u_11.1 10) 14 (fun _ => 0), zVi (u_11.1 3) (u_11.1 11) 14 (fun _ => 0), zVi (u_11.1 4) (u_11.1 12) 14 (fun _ => 0), zVi (u_11.1 5) (u_11.1 13) 14 (fun _ => 0), zVi (u_11.1 6) (u_11.1 14) 28 (fun _ => 0), zVi (u_11.1 7) (u_11.1 15) 28 (fun _ => 0)] H := hP
  replace hD := zDW hD hP rfl
  replace hK : va_K (dC, dI) vwCl [(a_2, .int), (a_4, .int), (a_6, .int), (a_8, .int), ((u_11.1 8), .int), ((u_11.1 9), .int), ((u_11.1 10), .int), ((u_11.1 11), .int), ((u_11.1 12), .int), ((u_11.1 13), .int), ((u_11.1 14), .int), ((u_11.1 15), .int)] s := hK
  refine W.widen (k := 13) (n := 166) (Nat.le_of_ble_eq_true rfl) (Nat.le_of_ble_eq_true rfl) ?_
  refine va_putF (D := (dC, dI)) (ci := 9) (v := .ref q_9) (ty := .object "ShortEnough$Numbers") (C := RX9) (T := TX9) (N := 9) hx hb hts zn_X9_init_X9 tyX9 tyX9_ok nmX9 hown hK hP hD hS 0 rfl rfl 6 (by decide) (hts (.fieldLink RX9 27 "ShortEnough$Task" "numbers" "LShortEnough$Numbers;") zw_X9_init_72) (fun _ h9 => h9) rfl hin rfl (by decide +kernel) rfl rfl (Nat.le_of_ble_eq_true rfl) dX9_init_40 ?_
  clear hP hD hS
  intro H locs hP hD hS
  replace hP : va_P (dC, dI) vwCl [(h0, .inr (9, [.int 0, .ref q_1, .ref q_3, .ref q_5, .ref q_7, .int 0, .ref q_9, .null, .null])), zVi q_1 a_2 4 (fun _ => 0), zVi q_3 a_4 4 (fun _ => 0), zVi q_5 a_6 4 (fun _ => 0), zVi q_7 a_8 4 (fun _ => 0), zV4 q_9 0 0 (u_11.1 0) (u_11.1 1) (u_11.1 2) (u_11.1 3) (u_11.1 4) (u_11.1 5) (u_11.1 6) (u_11.1 7), zVi (u_11.1 0) (u_11.1 8) 14 (fun _ => 0), zVi (u_11.1 1) (u_11.1 9) 14 (fun _ => 0), zVi (u_11.1 2) (u_11.1 10) 14 (fun _ => 0), zVi (u_11.1 3) (u_11.1 11) 14 (fun _ => 0), zVi (u_11.1 4) (u_11.1 12) 14 (fun _ => 0), zVi (u_11.1 5) (u_11.1 13) 14 (fun _ => 0), zVi (u_11.1 6) (u_11.1 14) 28 (fun _ => 0), zVi (u_11.1 7) (u_11.1 15) 28 (fun _ => 0)] H := hP
  replace hD := zDW hD hP rfl
  refine lv_aload_n hx hb dX9_init_43 rfl (lv_at hl 0 rfl) ?_
  refine va_new (ci := 2) (fs := [.int 0, .int 0, .int 0, .null, .null, .null]) (C := RX2) (T := TX2) (N := 6) hx hb hts zn_X9_init_X2 tyX2 tyX2_ok hown (hts (.classLink RX9 31 RX2) zw_X9_init_74) (hts (.instantiable RX2 6) zw_X9_init_75) (hts (.initialized RX2) zw_X9_init_76) hK hP hD hS hA rfl zd_X2 (Nat.le_of_ble_eq_true rfl) (Nat.le_of_ble_eq_true rfl) dX9_init_44 (fun q_13 H hP hD hS => ?_)
  replace hP : va_P (dC, dI) vwCl [(h0, .inr (9, [.int 0, .ref q_1, .ref q_3, .ref q_5, .ref q_7, .int 0, .ref q_9, .null, .null])), zVi q_1 a_2 4 (fun _ => 0), zVi q_3 a_4 4 (fun _ => 0), zVi q_5 a_6 4 (fun _ => 0), zVi q_7 a_8 4 (fun _ => 0), zV4 q_9 0 0 (u_11.1 0) (u_11.1 1) (u_11.1 2) (u_11.1 3) (u_11.1 4) (u_11.1 5) (u_11.1 6) (u_11.1 7), zVi (u_11.1 0) (u_11.1 8) 14 (fun _ => 0), zVi (u_11.1 1) (u_11.1 9) 14 (fun _ => 0), zVi (u_11.1 2) (u_11.1 10) 14 (fun _ => 0), zVi (u_11.1 3) (u_11.1 11) 14 (fun _ => 0), zVi (u_11.1 4) (u_11.1 12) 14 (fun _ => 0), zVi (u_11.1 5) (u_11.1 13) 14 (fun _ => 0), zVi (u_11.1 6) (u_11.1 14) 28 (fun _ => 0), zVi (u_11.1 7) (u_11.1 15) 28 (fun _ => 0), (q_13, .inr (2, [.int 0, .int 0, .int 0, .null, .null, .null]))] H := hP
  replace hD := zDW hD hP rfl
  refine W.widen (k := 14) (n := 172) (Nat.le_of_ble_eq_true rfl) (Nat.le_of_ble_eq_true rfl) ?_
  refine lv_dup hx hb dX9_init_47 rfl ?_
  replace hPc := hP.sub (ws' := [(q_13, .inr (2, [.int 0, .int 0, .int 0, .null, .null, .null]))]) [14] rfl
  replace hDc := hD.sub (ws' := [(q_13, .inr (2, [.int 0, .int 0, .int 0, .null, .null, .null]))]) [14] (by decide) rfl
  replace hKc := hK.sub (tys' := []) [] rfl
  replace hFc := va_free (wc := [(q_13, .inr (2, [.int 0, .int 0, .int 0, .null, .null, .null]))]) hD hS hA [14] rfl
  refine va_callv (va_runIN (As := []) (rest := [.ref q_13, .ref h0]) ⟨hx, hb, hml, hown, hts⟩ (zc10_X2_init l dC dI q_13 H.size) ⟨va_cnB (host := RX11) 0 hts gX9_init_X2_init_n33 rfl rfl rfl hn1 (hts (.initialized RX2) zw_X9_init_76) (by decide +kernel) ⟨Nat.le_of_ble_eq_true rfl, Nat.le_of_ble_eq_true rfl⟩, rfl, (hts (.instanceMethod yX2_init) zw_X9_init_85)⟩ ⟨fun a U g mk q => by obtain ⟨q0, q1, qP, qK, qD⟩ := q; exact ⟨q0, q1, qP, va_K.moved (u := U) (U := U.calling g mk a) (Vm.Alike.refl U.vm) qK, qD⟩, fun U hU hW => ⟨rfl, by rw [hU], by rw [hU]; exact hPc, va_K.moved hW.alike hKc, hDc.weaken (fun _ _ _ _ => trivial)⟩⟩ rfl rfl hl.1 rfl (lv_room (Nat.le_of_ble_eq_true rfl)) dX9_init_48 ⟨Nat.le_of_ble_eq_true rfl, Nat.le_of_ble_eq_true rfl⟩) hS (fun q _ h => hFc q h) hFc (fun u_15 t H1 locs ht hvm hw_16 hB hz1 hk1 hS => ?_)
  obtain ⟨hP1, hK1, hD1⟩ := hB
  rw [ht] at hP1
  replace hK1 := va_K.moved hvm.symm hK1
  obtain ⟨hP, hD⟩ := va_join (wr := [(h0, .inr (9, [.int 0, .ref q_1, .ref q_3, .ref q_5, .ref q_7, .int 0, .ref q_9, .null, .null])), zVi q_1 a_2 4 (fun _ => 0), zVi q_3 a_4 4 (fun _ => 0), zVi q_5 a_6 4 (fun _ => 0), zVi q_7 a_8 4 (fun _ => 0), zV4 q_9 0 0 (u_11.1 0) (u_11.1 1) (u_11.1 2) (u_11.1 3) (u_11.1 4) (u_11.1 5) (u_11.1 6) (u_11.1 7), zVi (u_11.1 0) (u_11.1 8) 14 (fun _ => 0), zVi (u_11.1 1) (u_11.1 9) 14 (fun _ => 0), zVi (u_11.1 2) (u_11.1 10) 14 (fun _ => 0), zVi (u_11.1 3) (u_11.1 11) 14 (fun _ => 0), zVi (u_11.1 4) (u_11.1 12) 14 (fun _ => 0), zVi (u_11.1 5) (u_11.1 13) 14 (fun _ => 0), zVi (u_11.1 6) (u_11.1 14) 28 (fun _ => 0), zVi (u_11.1 7) (u_11.1 15) 28 (fun _ => 0)]) (w1 := [zV2 q_13 0 0 0 (u_15.1 0) (u_15.1 1) (u_15.1 2), zVi (u_15.1 0) (u_15.1 3) 14 (fun _ => 0), zVi (u_15.1 1) (u_15.1 4) 14 (fun _ => 0), zVi (u_15.1 2) (u_15.1 5) 14 (fun _ => 0)]) hP hD [14] [0, 1, 2, 3, 4, 5, 6, 7, 8, 9, 10, 11, 12, 13] rfl rfl (by decide) (by decide) hk1 hFc hP1 hD1
  replace hK := hK.app hK1
  generalize H1 = H at hP hS ⊢
  replace hP : va_P (dC, dI) vwCl [(h0, .inr (9, [.int 0, .ref q_1, .ref q_3, .ref q_5, .ref q_7, .int 0, .ref q_9, .null, .null])), zVi q_1 a_2 4 (fun _ => 0), zVi q_3 a_4 4 (fun _ => 0), zVi q_5 a_6 4 (fun _ => 0), zVi q_7 a_8 4 (fun _ => 0), zV4 q_9 0 0 (u_11.1 0) (u_11.1 1) (u_11.1 2) (u_11.1 3) (u_11.1 4) (u_11.1 5) (u_11.1 6) (u_11.1 7), zVi (u_11.1 0) (u_11.1 8) 14 (fun _ => 0), zVi (u_11.1 1) (u_11.1 9) 14 (fun _ => 0), zVi (u_11.1 2) (u_11.1 10) 14 (fun _ => 0), zVi (u_11.1 3) (u_11.1 11) 14 (fun _ => 0), zVi (u_11.1 4) (u_11.1 12) 14 (fun _ => 0), zVi (u_11.1 5) (u_11.1 13) 14 (fun _ => 0), zVi (u_11.1 6) (u_11.1 14) 28 (fun _ => 0), zVi (u_11.1 7) (u_11.1 15) 28 (fun _ => 0), zV2 q_13 0 0 0 (u_15.1 0) (u_15.1 1) (u_15.1 2), zVi (u_15.1 0) (u_15.1 3) 14 (fun _ => 0), zVi (u_15.1 1) (u_15.1 4) 14 (fun _ => 0), zVi (u_15.1 2) (u_15.1 5) 14 (fun _ => 0)] H := hP
  replace hD := zDW hD hP rfl
  replace hK : va_K (dC, dI) vwCl [(a_2, .int), (a_4, .int), (a_6, .int), (a_8, .int), ((u_11.1 8), .int), ((u_11.1 9), .int), ((u_11.1 10), .int), ((u_11.1 11), .int), ((u_11.1 12), .int), ((u_11.1 13), .int), ((u_11.1 14), .int), ((u_11.1 15), .int), ((u_15.1 3), .int), ((u_15.1 4), .int), ((u_15.1 5), .int)] s := hK
  refine W.widen (k := 17) (n := 214) (Nat.le_of_ble_eq_true rfl) (Nat.le_of_ble_eq_true rfl) ?_
  refine va_putF (D := (dC, dI)) (ci := 9) (v := .ref q_13) (ty := .object "ShortEnough$Groups") (C := RX9) (T := TX9) (N := 9) hx hb hts zn_X9_init_X9 tyX9 tyX9_ok nmX9 hown hK hP hD hS 0 rfl rfl 7 (by decide) (hts (.fieldLink RX9 34 "ShortEnough$Task" "groups" "LShortEnough$Groups;") zw_X9_init_86) (fun _ h9 => h9) rfl hin rfl (by decide +kernel) rfl rfl (Nat.le_of_ble_eq_true rfl) dX9_init_51 ?_
  clear hP hD hS
  intro H locs hP hD hS
  replace hP : va_P (dC, dI) vwCl [(h0, .inr (9, [.int 0, .ref q_1, .ref q_3, .ref q_5, .ref q_7, .int 0, .ref q_9, .ref q_13, .null])), zVi q_1 a_2 4 (fun _ => 0), zVi q_3 a_4 4 (fun _ => 0), zVi q_5 a_6 4 (fun _ => 0), zVi q_7 a_8 4 (fun _ => 0), zV4 q_9 0 0 (u_11.1 0) (u_11.1 1) (u_11.1 2) (u_11.1 3) (u_11.1 4) (u_11.1 5) (u_11.1 6) (u_11.1 7), zVi (u_11.1 0) (u_11.1 8) 14 (fun _ => 0), zVi (u_11.1 1) (u_11.1 9) 14 (fun _ => 0), zVi (u_11.1 2) (u_11.1 10) 14 (fun _ => 0), zVi (u_11.1 3) (u_11.1 11) 14 (fun _ => 0), zVi (u_11.1 4) (u_11.1 12) 14 (fun _ => 0), zVi (u_11.1 5) (u_11.1 13) 14 (fun _ => 0), zVi (u_11.1 6) (u_11.1 14) 28 (fun _ => 0), zVi (u_11.1 7) (u_11.1 15) 28 (fun _ => 0), zV2 q_13 0 0 0 (u_15.1 0) (u_15.1 1) (u_15.1 2), zVi (u_15.1 0) (u_15.1 3) 14 (fun _ => 0), zVi (u_15.1 1) (u_15.1 4) 14 (fun _ => 0), zVi (u_15.1 2) (u_15.1 5) 14 (fun _ => 0)] H := hP
  replace hD := zDW hD hP rfl
  refine lv_aload_n hx hb dX9_init_54 rfl (lv_at hl 0 rfl) ?_
  refine va_new (ci := 6) (fs := [.null, .null, .null]) (C := RX6) (T := TX6) (N := 3) hx hb hts zn_X9_init_X6 tyX6 tyX6_ok hown (hts (.classLink RX9 38 RX6) zw_X9_init_88) (hts (.instantiable RX6 3) zw_X9_init_89) (hts (.initialized RX6) zw_X9_init_90) hK hP hD hS hA rfl zd_X6 (Nat.le_of_ble_eq_true rfl) (Nat.le_of_ble_eq_true rfl) dX9_init_55 (fun q_17 H hP hD hS => ?_)
  replace hP : va_P (dC, dI) vwCl [(h0, .inr (9, [.int 0, .ref q_1, .ref q_3, .ref q_5, .ref q_7, .int 0, .ref q_9, .ref q_13, .null])), zVi q_1 a_2 4 (fun _ => 0), zVi q_3 a_4 4 (fun _ => 0), zVi q_5 a_6 4 (fun _ => 0), zVi q_7 a_8 4 (fun _ => 0), zV4 q_9 0 0 (u_11.1 0) (u_11.1 1) (u_11.1 2) (u_11.1 3) (u_11.1 4) (u_11.1 5) (u_11.1 6) (u_11.1 7), zVi (u_11.1 0) (u_11.1 8) 14 (fun _ => 0), zVi (u_11.1 1) (u_11.1 9) 14 (fun _ => 0), zVi (u_11.1 2) (u_11.1 10) 14 (fun _ => 0), zVi (u_11.1 3) (u_11.1 11) 14 (fun _ => 0), zVi (u_11.1 4) (u_11.1 12) 14 (fun _ => 0), zVi (u_11.1 5) (u_11.1 13) 14 (fun _ => 0), zVi (u_11.1 6) (u_11.1 14) 28 (fun _ => 0), zVi (u_11.1 7) (u_11.1 15) 28 (fun _ => 0), zV2 q_13 0 0 0 (u_15.1 0) (u_15.1 1) (u_15.1 2), zVi (u_15.1 0) (u_15.1 3) 14 (fun _ => 0), zVi (u_15.1 1) (u_15.1 4) 14 (fun _ => 0), zVi (u_15.1 2) (u_15.1 5) 14 (fun _ => 0), (q_17, .inr (6, [.null, .null, .null]))] H := hP
  replace hD := zDW hD hP rfl
  refine W.widen (k := 18) (n := 217) (Nat.le_of_ble_eq_true rfl) (Nat.le_of_ble_eq_true rfl) ?_
  refine lv_dup hx hb dX9_init_58 rfl ?_
  replace hPc := hP.sub (ws' := [(q_17, .inr (6, [.null, .null, .null]))]) [18] rfl
  replace hDc := hD.sub (ws' := [(q_17, .inr (6, [.null, .null, .null]))]) [18] (by decide) rfl
  replace hKc := hK.sub (tys' := []) [] rfl
  replace hFc := va_free (wc := [(q_17, .inr (6, [.null, .null, .null]))]) hD hS hA [18] rfl
  refine va_callv (va_runIN (As := []) (rest := [.ref q_17, .ref h0]) ⟨hx, hb, hml, hown, hts⟩ (zc11_X6_init l dC dI q_17 H.size) ⟨va_cnB (host := RX11) 0 hts gX9_init_X6_init_n40 rfl rfl rfl hn2 (hts (.initialized RX6) zw_X9_init_90) (by decide +kernel) ⟨Nat.le_of_ble_eq_true rfl, Nat.le_of_ble_eq_true rfl⟩, rfl, (hts (.instanceMethod yX6_init) zw_X9_init_100)⟩ ⟨fun a U g mk q => by obtain ⟨q0, q1, qP, qK, qD⟩ := q; exact ⟨q0, q1, qP, va_K.moved (u := U) (U := U.calling g mk a) (Vm.Alike.refl U.vm) qK, qD⟩, fun U hU hW => ⟨rfl, by rw [hU], by rw [hU]; exact hPc, va_K.moved hW.alike hKc, hDc.weaken (fun _ _ _ _ => trivial)⟩⟩ rfl rfl hl.1 rfl (lv_room (Nat.le_of_ble_eq_true rfl)) dX9_init_59 ⟨Nat.le_of_ble_eq_true rfl, Nat.le_of_ble_eq_true rfl⟩) hS (fun q _ h => hFc q h) hFc (fun u_19 t H1 locs ht hvm hw_20 hB hz1 hk1 hS => ?_)
  obtain ⟨hP1, hK1, hD1⟩ := hB
  rw [ht] at hP1
  replace hK1 := va_K.moved hvm.symm hK1
  obtain ⟨hP, hD⟩ := va_join (wr := [(h0, .inr (9, [.int 0, .ref q_1, .ref q_3, .ref q_5, .ref q_7, .int 0, .ref q_9, .ref q_13, .null])), zVi q_1 a_2 4 (fun _ => 0), zVi q_3 a_4 4 (fun _ => 0), zVi q_5 a_6 4 (fun _ => 0), zVi q_7 a_8 4 (fun _ => 0), zV4 q_9 0 0 (u_11.1 0) (u_11.1 1) (u_11.1 2) (u_11.1 3) (u_11.1 4) (u_11.1 5) (u_11.1 6) (u_11.1 7), zVi (u_11.1 0) (u_11.1 8) 14 (fun _ => 0), zVi (u_11.1 1) (u_11.1 9) 14 (fun _ => 0), zVi (u_11.1 2) (u_11.1 10) 14 (fun _ => 0), zVi (u_11.1 3) (u_11.1 11) 14 (fun _ => 0), zVi (u_11.1 4) (u_11.1 12) 14 (fun _ => 0), zVi (u_11.1 5) (u_11.1 13) 14 (fun _ => 0), zVi (u_11.1 6) (u_11.1 14) 28 (fun _ => 0), zVi (u_11.1 7) (u_11.1 15) 28 (fun _ => 0), zV2 q_13 0 0 0 (u_15.1 0) (u_15.1 1) (u_15.1 2), zVi (u_15.1 0) (u_15.1 3) 14 (fun _ => 0), zVi (u_15.1 1) (u_15.1 4) 14 (fun _ => 0), zVi (u_15.1 2) (u_15.1 5) 14 (fun _ => 0)]) (w1 := [zV6 q_17 (u_19.1 0) (u_19.1 1) (u_19.1 2), zVl (u_19.1 0) (u_19.1 3) 14 (fun _ => 0), zVl (u_19.1 1) (u_19.1 4) 14 (fun _ => 0), zVi (u_19.1 2) (u_19.1 5) 14 (fun _ => 0)]) hP hD [18] [0, 1, 2, 3, 4, 5, 6, 7, 8, 9, 10, 11, 12, 13, 14, 15, 16, 17] rfl rfl (by decide) (by decide) hk1 hFc hP1 hD1
  replace hK := hK.app hK1
  generalize H1 = H at hP hS ⊢
  replace hP : va_P (dC, dI) vwCl [(h0, .inr (9, [.int 0, .ref q_1, .ref q_3, .ref q_5, .ref q_7, .int 0, .ref q_9, .ref q_13, .null])), zVi q_1 a_2 4 (fun _ => 0), zVi q_3 a_4 4 (fun _ => 0), zVi q_5 a_6 4 (fun _ => 0), zVi q_7 a_8 4 (fun _ => 0), zV4 q_9 0 0 (u_11.1 0) (u_11.1 1) (u_11.1 2) (u_11.1 3) (u_11.1 4) (u_11.1 5) (u_11.1 6) (u_11.1 7), zVi (u_11.1 0) (u_11.1 8) 14 (fun _ => 0), zVi (u_11.1 1) (u_11.1 9) 14 (fun _ => 0), zVi (u_11.1 2) (u_11.1 10) 14 (fun _ => 0), zVi (u_11.1 3) (u_11.1 11) 14 (fun _ => 0), zVi (u_11.1 4) (u_11.1 12) 14 (fun _ => 0), zVi (u_11.1 5) (u_11.1 13) 14 (fun _ => 0), zVi (u_11.1 6) (u_11.1 14) 28 (fun _ => 0), zVi (u_11.1 7) (u_11.1 15) 28 (fun _ => 0), zV2 q_13 0 0 0 (u_15.1 0) (u_15.1 1) (u_15.1 2), zVi (u_15.1 0) (u_15.1 3) 14 (fun _ => 0), zVi (u_15.1 1) (u_15.1 4) 14 (fun _ => 0), zVi (u_15.1 2) (u_15.1 5) 14 (fun _ => 0), zV6 q_17 (u_19.1 0) (u_19.1 1) (u_19.1 2), zVl (u_19.1 0) (u_19.1 3) 14 (fun _ => 0), zVl (u_19.1 1) (u_19.1 4) 14 (fun _ => 0), zVi (u_19.1 2) (u_19.1 5) 14 (fun _ => 0)] H := hP
  replace hD := zDW hD hP rfl
  replace hK : va_K (dC, dI) vwCl [(a_2, .int), (a_4, .int), (a_6, .int), (a_8, .int), ((u_11.1 8), .int), ((u_11.1 9), .int), ((u_11.1 10), .int), ((u_11.1 11), .int), ((u_11.1 12), .int), ((u_11.1 13), .int), ((u_11.1 14), .int), ((u_11.1 15), .int), ((u_15.1 3), .int), ((u_15.1 4), .int), ((u_15.1 5), .int), ((u_19.1 3), .long), ((u_19.1 4), .long), ((u_19.1 5), .boolean)] s := hK
  refine W.widen (k := 21) (n := 259) (Nat.le_of_ble_eq_true rfl) (Nat.le_of_ble_eq_true rfl) ?_
  refine va_putF (D := (dC, dI)) (ci := 9) (v := .ref q_17) (ty := .object "ShortEnough$Ranges") (C := RX9) (T := TX9) (N := 9) hx hb hts zn_X9_init_X9 tyX9 tyX9_ok nmX9 hown hK hP hD hS 0 rfl rfl 8 (by decide) (hts (.fieldLink RX9 41 "ShortEnough$Task" "ranges" "LShortEnough$Ranges;") zw_X9_init_101) (fun _ h9 => h9) rfl hin rfl (by decide +kernel) rfl rfl (Nat.le_of_ble_eq_true rfl) dX9_init_62 ?_
  clear hP hD hS
  intro H locs hP hD hS
  replace hP : va_P (dC, dI) vwCl [zV9 h0 0 q_1 q_3 q_5 q_7 0 q_9 q_13 q_17, zVi q_1 a_2 4 (fun _ => 0), zVi q_3 a_4 4 (fun _ => 0), zVi q_5 a_6 4 (fun _ => 0), zVi q_7 a_8 4 (fun _ => 0), zV4 q_9 0 0 (u_11.1 0) (u_11.1 1) (u_11.1 2) (u_11.1 3) (u_11.1 4) (u_11.1 5) (u_11.1 6) (u_11.1 7), zVi (u_11.1 0) (u_11.1 8) 14 (fun _ => 0), zVi (u_11.1 1) (u_11.1 9) 14 (fun _ => 0), zVi (u_11.1 2) (u_11.1 10) 14 (fun _ => 0), zVi (u_11.1 3) (u_11.1 11) 14 (fun _ => 0), zVi (u_11.1 4) (u_11.1 12) 14 (fun _ => 0), zVi (u_11.1 5) (u_11.1 13) 14 (fun _ => 0), zVi (u_11.1 6) (u_11.1 14) 28 (fun _ => 0), zVi (u_11.1 7) (u_11.1 15) 28 (fun _ => 0), zV2 q_13 0 0 0 (u_15.1 0) (u_15.1 1) (u_15.1 2), zVi (u_15.1 0) (u_15.1 3) 14 (fun _ => 0), zVi (u_15.1 1) (u_15.1 4) 14 (fun _ => 0), zVi (u_15.1 2) (u_15.1 5) 14 (fun _ => 0), zV6 q_17 (u_19.1 0) (u_19.1 1) (u_19.1 2), zVl (u_19.1 0) (u_19.1 3) 14 (fun _ => 0), zVl (u_19.1 1) (u_19.1 4) 14 (fun _ => 0), zVi (u_19.1 2) (u_19.1 5) 14 (fun _ => 0)] H := hP
  replace hD := zDW hD hP rfl
  have hP9 := hP.sub (ws' := [zV9 h0 0 q_1 q_3 q_5 q_7 0 q_9 q_13 q_17, zVi q_1 a_2 4 (fun _ => 0), zVi q_3 a_4 4 (fun _ => 0), zVi q_5 a_6 4 (fun _ => 0), zVi q_7 a_8 4 (fun _ => 0), zV4 q_9 0 0 (u_11.1 0) (u_11.1 1) (u_11.1 2) (u_11.1 3) (u_11.1 4) (u_11.1 5) (u_11.1 6) (u_11.1 7), zVi (u_11.1 0) (u_11.1 8) 14 (fun _ => 0), zVi (u_11.1 1) (u_11.1 9) 14 (fun _ => 0), zVi (u_11.1 2) (u_11.1 10) 14 (fun _ => 0), zVi (u_11.1 3) (u_11.1 11) 14 (fun _ => 0), zVi (u_11.1 4) (u_11.1 12) 14 (fun _ => 0), zVi (u_11.1 5) (u_11.1 13) 14 (fun _ => 0), zVi (u_11.1 6) (u_11.1 14) 28 (fun _ => 0), zVi (u_11.1 7) (u_11.1 15) 28 (fun _ => 0), zV2 q_13 0 0 0 (u_15.1 0) (u_15.1 1) (u_15.1 2), zVi (u_15.1 0) (u_15.1 3) 14 (fun _ => 0), zVi (u_15.1 1) (u_15.1 4) 14 (fun _ => 0), zVi (u_15.1 2) (u_15.1 5) 14 (fun _ => 0), zV6 q_17 (u_19.1 0) (u_19.1 1) (u_19.1 2), zVl (u_19.1 0) (u_19.1 3) 14 (fun _ => 0), zVl (u_19.1 1) (u_19.1 4) 14 (fun _ => 0), zVi (u_19.1 2) (u_19.1 5) 14 (fun _ => 0)]) [0, 1, 2, 3, 4, 5, 6, 7, 8, 9, 10, 11, 12, 13, 14, 15, 16, 17, 18, 19, 20, 21] rfl
  have hD9 := hD.sub (ws' := [zV9 h0 0 q_1 q_3 q_5 q_7 0 q_9 q_13 q_17, zVi q_1 a_2 4 (fun _ => 0), zVi q_3 a_4 4 (fun _ => 0), zVi q_5 a_6 4 (fun _ => 0), zVi q_7 a_8 4 (fun _ => 0), zV4 q_9 0 0 (u_11.1 0) (u_11.1 1) (u_11.1 2) (u_11.1 3) (u_11.1 4) (u_11.1 5) (u_11.1 6) (u_11.1 7), zVi (u_11.1 0) (u_11.1 8) 14 (fun _ => 0), zVi (u_11.1 1) (u_11.1 9) 14 (fun _ => 0), zVi (u_11.1 2) (u_11.1 10) 14 (fun _ => 0), zVi (u_11.1 3) (u_11.1 11) 14 (fun _ => 0), zVi (u_11.1 4) (u_11.1 12) 14 (fun _ => 0), zVi (u_11.1 5) (u_11.1 13) 14 (fun _ => 0), zVi (u_11.1 6) (u_11.1 14) 28 (fun _ => 0), zVi (u_11.1 7) (u_11.1 15) 28 (fun _ => 0), zV2 q_13 0 0 0 (u_15.1 0) (u_15.1 1) (u_15.1 2), zVi (u_15.1 0) (u_15.1 3) 14 (fun _ => 0), zVi (u_15.1 1) (u_15.1 4) 14 (fun _ => 0), zVi (u_15.1 2) (u_15.1 5) 14 (fun _ => 0), zV6 q_17 (u_19.1 0) (u_19.1 1) (u_19.1 2), zVl (u_19.1 0) (u_19.1 3) 14 (fun _ => 0), zVl (u_19.1 1) (u_19.1 4) 14 (fun _ => 0), zVi (u_19.1 2) (u_19.1 5) 14 (fun _ => 0)]) [0, 1, 2, 3, 4, 5, 6, 7, 8, 9, 10, 11, 12, 13, 14, 15, 16, 17, 18, 19, 20, 21] (by decide) rfl
  have hK9 := hK.sub (tys' := [(a_2, .int), (a_4, .int), (a_6, .int), (a_8, .int), ((u_11.1 8), .int), ((u_11.1 9), .int), ((u_11.1 10), .int), ((u_11.1 11), .int), ((u_11.1 12), .int), ((u_11.1 13), .int), ((u_11.1 14), .int), ((u_11.1 15), .int), ((u_15.1 3), .int), ((u_15.1 4), .int), ((u_15.1 5), .int), ((u_19.1 3), .long), ((u_19.1 4), .long), ((u_19.1 5), .boolean)]) [0, 1, 2, 3, 4, 5, 6, 7, 8, 9, 10, 11, 12, 13, 14, 15, 16, 17] rfl
  refine W.widen (k := 21) (n := 259) (Nat.le_of_ble_eq_true rfl) (Nat.le_of_ble_eq_true rfl) ?_
  exact W.vret hx hb hr (fun t ht hW => ⟨⟨((fun k => ([q_1, q_3, q_5, q_7, q_9, q_13, q_17, a_2, a_4, a_6, a_8, (u_11.1 0), (u_11.1 1), (u_11.1 2), (u_11.1 3), (u_11.1 4), (u_11.1 5), (u_11.1 6), (u_11.1 7), (u_11.1 8), (u_11.1 9), (u_11.1 10), (u_11.1 11), (u_11.1 12), (u_11.1 13), (u_11.1 14), (u_11.1 15), (u_15.1 0), (u_15.1 1), (u_15.1 2), (u_15.1 3), (u_15.1 4), (u_15.1 5), (u_19.1 0), (u_19.1 1), (u_19.1 2), (u_19.1 3), (u_19.1 4), (u_19.1 5)] : List Nat).getD k 0), (fun k => ([] : List (Nat → Int32)).getD k (fun _ => 0))), rfl, trivial, by rw [ht]; exact hP9, va_K.moved hW.alike hK9, hD9⟩, hS.F ht⟩) hS.2.2 dX9_init_65
set_option maxHeartbeats 4000000 in
set_option maxRecDepth 100000 in
theorem zc13_X7_init (l : Launch) (dC : Nat → ClassId) (dI : Nat → Nat → Nat) (h0 : Nat) (sz : Nat) : Met l yX7_init wsX7_init ({ frames := 1, cells := 1, slots := 14, locals := 20 }) (va_Pc [.ref h0] (fun U => U.heap.size = sz ∧ va_P (dC, dI) vwCl [(h0, .inr (7, [.null, .int 0, .int 0]))] U.heap ∧ va_K (dC, dI) vwCl [] U ∧ va_D (fun _ => True) [(h0, .inr (7, [.null, .int 0, .int 0]))])) (va_Qv (fun (u : zU) => True) (fun u t => va_P (dC, dI) vwCl [zV7 h0 (u.1 0) 0 0, zVl (u.1 0) (u.1 1) 14 (fun _ => 0)] t.heap ∧ va_K (dC, dI) vwCl [((u.1 1), .long)] t ∧ va_D (va_A [(h0, .inr (7, [.null, .int 0, .int 0]))] sz) [zV7 h0 (u.1 0) 0 0, zVl (u.1 0) (u.1 1) 14 (fun _ => 0)]) (va_A [(h0, .inr (7, [.null, .int 0, .int 0]))] sz)) 1 14 (va_A [(h0, .inr (7, [.null, .int 0, .int 0]))] sz) := by
  refine Met.ofW (cc := cX7_init) (maxL := 1) (ret := none) (by decide +kernel) rfl ?_
  intro p e s m args below meth c s₁ B hml hv
  obtain ⟨rfl, hsz, hP, hK, hD0⟩ := hv
  have hx := B.exec
  have hb := B.bytes
  have hr := B.returns
  have hts := atoms_spec (ws := wsX7_init) B.pre
  have hown : s.vm.findClass RX7 = some m.cls := (findClass_of_methodNamed B.named :)
  have hlocks := B.notSynchronized
  have hin : meth.name = "<init>" := (name_of_methodNamed B.named B.method).1
  subst hsz
  replace hD := hD0.self (sz := s.heap.size)
  generalize hAe : va_A [(h0, .inr (7, [.null, .int 0, .int 0]))] s.heap.size = A at hD ⊢
  have hA : ∀ q : Nat, s.heap.size ≤ q → A q := fun q h => by rw [← hAe]; exact Or.inr h
  have hS : va_S A s.heap s.heap [] := va_S.rf
  replace hP : va_P (dC, dI) vwCl [(h0, .inr (7, [.null, .int 0, .int 0]))] s.heap := hP
  have hl := lv_entry ([.ref h0]) (n := 1) (Nat.le_of_ble_eq_true rfl)
  rw [lg_entry_eq]
  generalize (lg_sl ([.ref h0]) ++ List.replicate (1 - (lg_sl ([.ref h0])).length) Slot.unset).toArray = ls at hl ⊢
  have hl : lv_has ls 1 [(0, .ref h0)] := hl
  refine lv_aload_n hx hb dX7_init_0 rfl (lv_at hl 0 rfl) ?_
  refine W.objInit hx hb hown (hts (.methodLink RX7 3 objectInit) zw_X7_init_111) (hts (.instanceMethod objectInit) zw_X7_init_112) (hts (.code objectInit ⟨#[0xb1]⟩ 1 none) zw_X7_init_113) rfl (by rw [hml]; exact hl.1) rfl dX7_init_1 (Nat.le_of_ble_eq_true rfl) (Nat.le_of_ble_eq_true rfl) ?_
  refine W.eq (g2 := F0 m 4 ls []) rfl ?_
  refine lv_aload_n hx hb dX7_init_4 rfl (lv_at hl 0 rfl) ?_
  refine lv_bipush (v := 14) hx hb dX7_init_5 zcb_14 ?_
  refine va_newa (atype := .long) (ty := .long) (N' := 14) (a0 := (14, .inr (.inl (fun _ => 0)))) hx hb (hts (.arrayClass .long) zw_X7_init_114) rfl hK hP hD hS hA (fun _ => rfl) (by decide +kernel) (by decide +kernel) (Nat.le_of_ble_eq_true rfl) (Nat.le_of_ble_eq_true rfl) (Nat.le_of_ble_eq_true rfl) dX7_init_7 (fun q_1 a_2 H hK hP hD hS => ?_)
  replace hP : va_P (dC, dI) vwCl [(h0, .inr (7, [.null, .int 0, .int 0])), zVl q_1 a_2 14 (fun _ => 0)] H := hP
  replace hD := zDW hD hP rfl
  replace hK : va_K (dC, dI) vwCl [(a_2, .long)] s := hK
  refine W.widen (k := 1) (n := 14) (Nat.le_of_ble_eq_true rfl) (Nat.le_of_ble_eq_true rfl) ?_
  refine va_putF (D := (dC, dI)) (ci := 7) (v := .ref q_1) (ty := .array .long) (C := RX7) (T := TX7) (N := 3) hx hb hts zn_X7_init_X7 tyX7 tyX7_ok nmX7 hown hK hP hD hS 0 rfl rfl 0 (by decide) (hts (.fieldLink RX7 9 "ShortEnough$Reckoning" "errors" "[J") zw_X7_init_116) (fun _ h9 => h9) rfl hin rfl (by decide +kernel) rfl rfl (Nat.le_of_ble_eq_true rfl) dX7_init_9 ?_
  clear hP hD hS
  intro H locs hP hD hS
  replace hP : va_P (dC, dI) vwCl [zV7 h0 q_1 0 0, zVl q_1 a_2 14 (fun _ => 0)] H := hP
  replace hD := zDW hD hP rfl
  have hP9 := hP.sub (ws' := [zV7 h0 q_1 0 0, zVl q_1 a_2 14 (fun _ => 0)]) [0, 1] rfl
  have hD9 := hD.sub (ws' := [zV7 h0 q_1 0 0, zVl q_1 a_2 14 (fun _ => 0)]) [0, 1] (by decide) rfl
  have hK9 := hK.sub (tys' := [(a_2, .long)]) [0] rfl
  refine W.widen (k := 1) (n := 14) (Nat.le_of_ble_eq_true rfl) (Nat.le_of_ble_eq_true rfl) ?_
  exact W.vret hx hb hr (fun t ht hW => ⟨⟨((fun k => ([q_1, a_2] : List Nat).getD k 0), (fun k => ([] : List (Nat → Int32)).getD k (fun _ => 0))), rfl, trivial, by rw [ht]; exact hP9, va_K.moved hW.alike hK9, hD9⟩, hS.F ht⟩) hS.2.2 dX7_init_12
set_option maxHeartbeats 4000000 in
set_option maxRecDepth 100000 in
theorem zc14_X1_init (l : Launch) (dC : Nat → ClassId) (dI : Nat → Nat → Nat) (h0 : Nat) (sz : Nat) : Met l yX1_init wsX1_init ({ frames := 2, cells := 8, slots := 31, locals := 40 }) (va_Pc [.ref h0] (fun U => va_Nw (.methodLinkNest RX1 11 yX7_init RX11) U ∧ U.heap.size = sz ∧ va_P (dC, dI) vwCl [(h0, .inr (1, [.null, .null, .int 0, .int 0, .null, .null, .int 0, .int 0, .int 0, .int 0, .int 0, .null, .null, .null]))] U.heap ∧ va_K (dC, dI) vwCl [] U ∧ va_D (fun _ => True) [(h0, .inr (1, [.null, .null, .int 0, .int 0, .null, .null, .int 0, .int 0, .int 0, .int 0, .int 0, .null, .null, .null]))])) (va_Qv (fun (u : zU) => True) (fun u t => va_P (dC, dI) vwCl [zV1 h0 (u.1 0) (u.1 1) 0 0 (u.1 2) (u.1 3) 0 (-1) 0 (-1) 0 (u.1 4) (u.1 5) (u.1 6), zV7 (u.1 0) (u.1 7) 0 0, zVl (u.1 7) (u.1 8) 14 (fun _ => 0), zVi (u.1 1) (u.1 9) 14 (fun _ => 0), zVi (u.1 2) (u.1 10) 0 (fun _ => 0), zVi (u.1 3) (u.1 11) 0 (fun _ => 0), zVi (u.1 4) (u.1 12) 0 (fun _ => 0), zVi (u.1 5) (u.1 13) 0 (fun _ => 0), zVi (u.1 6) (u.1 14) 0 (fun _ => 0)] t.heap ∧ va_K (dC, dI) vwCl [((u.1 8), .long), ((u.1 9), .int), ((u.1 10), .int), ((u.1 11), .int), ((u.1 12), .int), ((u.1 13), .int), ((u.1 14), .int)] t ∧ va_D (va_A [(h0, .inr (1, [.null, .null, .int 0, .int 0, .null, .null, .int 0, .int 0, .int 0, .int 0, .int 0, .null, .null, .null]))] sz) [zV1 h0 (u.1 0) (u.1 1) 0 0 (u.1 2) (u.1 3) 0 (-1) 0 (-1) 0 (u.1 4) (u.1 5) (u.1 6), zV7 (u.1 0) (u.1 7) 0 0, zVl (u.1 7) (u.1 8) 14 (fun _ => 0), zVi (u.1 1) (u.1 9) 14 (fun _ => 0), zVi (u.1 2) (u.1 10) 0 (fun _ => 0), zVi (u.1 3) (u.1 11) 0 (fun _ => 0), zVi (u.1 4) (u.1 12) 0 (fun _ => 0), zVi (u.1 5) (u.1 13) 0 (fun _ => 0), zVi (u.1 6) (u.1 14) 0 (fun _ => 0)]) (va_A [(h0, .inr (1, [.null, .null, .int 0, .int 0, .null, .null, .int 0, .int 0, .int 0, .int 0, .int 0, .null, .null, .null]))] sz)) 8 31 (va_A [(h0, .inr (1, [.null, .null, .int 0, .int 0, .null, .null, .int 0, .int 0, .int 0, .int 0, .int 0, .null, .null, .null]))] sz) := by
  refine Met.ofW (cc := cX1_init) (maxL := 1) (ret := none) (by decide +kernel) rfl ?_
  intro p e s m args below meth c s₁ B hml hv
  obtain ⟨rfl, hn0, hsz, hP, hK, hD0⟩ := hv
  have hx := B.exec
  have hb := B.bytes
  have hr := B.returns
  have hts := atoms_spec (ws := wsX1_init) B.pre
  have hown : s.vm.findClass RX1 = some m.cls := (findClass_of_methodNamed B.named :)
  have hlocks := B.notSynchronized
  have hin : meth.name = "<init>" := (name_of_methodNamed B.named B.method).1
  subst hsz
  replace hD := hD0.self (sz := s.heap.size)
  generalize hAe : va_A [(h0, .inr (1, [.null, .null, .int 0, .int 0, .null, .null, .int 0, .int 0, .int 0, .int 0, .int 0, .null, .null, .null]))] s.heap.size = A at hD ⊢
  have hA : ∀ q : Nat, s.heap.size ≤ q → A q := fun q h => by rw [← hAe]; exact Or.inr h
  have hS : va_S A s.heap s.heap [] := va_S.rf
  replace hP : va_P (dC, dI) vwCl [(h0, .inr (1, [.null, .null, .int 0, .int 0, .null, .null, .int 0, .int 0, .int 0, .int 0, .int 0, .null, .null, .null]))] s.heap := hP
  have hl := lv_entry ([.ref h0]) (n := 1) (Nat.le_of_ble_eq_true rfl)
  rw [lg_entry_eq]
  generalize (lg_sl ([.ref h0]) ++ List.replicate (1 - (lg_sl ([.ref h0])).length) Slot.unset).toArray = ls at hl ⊢
  have hl : lv_has ls 1 [(0, .ref h0)] := hl
  refine lv_aload_n hx hb dX1_init_0 rfl (lv_at hl 0 rfl) ?_
  refine W.objInit hx hb hown (hts (.methodLink RX1 3 objectInit) zw_X1_init_130) (hts (.instanceMethod objectInit) zw_X1_init_131) (hts (.code objectInit ⟨#[0xb1]⟩ 1 none) zw_X1_init_132) rfl (by rw [hml]; exact hl.1) rfl dX1_init_1 (Nat.le_of_ble_eq_true rfl) (Nat.le_of_ble_eq_true rfl) ?_
  refine W.eq (g2 := F0 m 4 ls []) rfl ?_
  refine lv_aload_n hx hb dX1_init_4 rfl (lv_at hl 0 rfl) ?_
  refine va_new (ci := 7) (fs := [.null, .int 0, .int 0]) (C := RX7) (T := TX7) (N := 3) hx hb hts zn_X1_init_X7 tyX7 tyX7_ok hown (hts (.classLink RX1 9 RX7) zw_X1_init_134) (hts (.instantiable RX7 3) zw_X1_init_135) (hts (.initialized RX7) zw_X1_init_136) hK hP hD hS hA rfl zd_X7 (Nat.le_of_ble_eq_true rfl) (Nat.le_of_ble_eq_true rfl) dX1_init_5 (fun q_1 H hP hD hS => ?_)
  replace hP : va_P (dC, dI) vwCl [(h0, .inr (1, [.null, .null, .int 0, .int 0, .null, .null, .int 0, .int 0, .int 0, .int 0, .int 0, .null, .null, .null])), (q_1, .inr (7, [.null, .int 0, .int 0]))] H := hP
  replace hD := zDW hD hP rfl
  refine W.widen (k := 1) (n := 3) (Nat.le_of_ble_eq_true rfl) (Nat.le_of_ble_eq_true rfl) ?_
  refine lv_dup hx hb dX1_init_8 rfl ?_
  replace hPc := hP.sub (ws' := [(q_1, .inr (7, [.null, .int 0, .int 0]))]) [1] rfl
  replace hDc := hD.sub (ws' := [(q_1, .inr (7, [.null, .int 0, .int 0]))]) [1] (by decide) rfl
  replace hKc := hK.sub (tys' := []) [] rfl
  replace hFc := va_free (wc := [(q_1, .inr (7, [.null, .int 0, .int 0]))]) hD hS hA [1] rfl
  refine va_callv (va_runIN (As := []) (rest := [.ref q_1, .ref h0]) ⟨hx, hb, hml, hown, hts⟩ (zc13_X7_init l dC dI q_1 H.size) ⟨va_cnB (host := RX11) 0 hts gX1_init_X7_init_n11 rfl rfl rfl hn0 (hts (.initialized RX7) zw_X1_init_136) (by decide +kernel) ⟨Nat.le_of_ble_eq_true rfl, Nat.le_of_ble_eq_true rfl⟩, rfl, (hts (.instanceMethod yX7_init) zw_X1_init_137)⟩ ⟨fun a U g mk q => by obtain ⟨q0, q1, qP, qK, qD⟩ := q; exact ⟨q0, q1, qP, va_K.moved (u := U) (U := U.calling g mk a) (Vm.Alike.refl U.vm) qK, qD⟩, fun U hU hW => ⟨rfl, by rw [hU], by rw [hU]; exact hPc, va_K.moved hW.alike hKc, hDc.weaken (fun _ _ _ _ => trivial)⟩⟩ rfl rfl hl.1 rfl (lv_room (Nat.le_of_ble_eq_true rfl)) dX1_init_9 ⟨Nat.le_of_ble_eq_true rfl, Nat.le_of_ble_eq_true rfl⟩) hS (fun q _ h => hFc q h) hFc (fun u_3 t H1 locs ht hvm hw_4 hB hz1 hk1 hS => ?_)
  obtain ⟨hP1, hK1, hD1⟩ := hB
  rw [ht] at hP1
  replace hK1 := va_K.moved hvm.symm hK1
  obtain ⟨hP, hD⟩ := va_join (wr := [(h0, .inr (1, [.null, .null, .int 0, .int 0, .null, .null, .int 0, .int 0, .int 0, .int 0, .int 0, .null, .null, .null]))]) (w1 := [zV7 q_1 (u_3.1 0) 0 0, zVl (u_3.1 0) (u_3.1 1) 14 (fun _ => 0)]) hP hD [1] [0] rfl rfl (by decide) (by decide) hk1 hFc hP1 hD1
  replace hK := hK.app hK1
  generalize H1 = H at hP hS ⊢
  replace hP : va_P (dC, dI) vwCl [(h0, .inr (1, [.null, .null, .int 0, .int 0, .null, .null, .int 0, .int 0, .int 0, .int 0, .int 0, .null, .null, .null])), zV7 q_1 (u_3.1 0) 0 0, zVl (u_3.1 0) (u_3.1 1) 14 (fun _ => 0)] H := hP
  replace hD := zDW hD hP rfl
  replace hK : va_K (dC, dI) vwCl [((u_3.1 1), .long)] s := hK
  refine W.widen (k := 2) (n := 17) (Nat.le_of_ble_eq_true rfl) (Nat.le_of_ble_eq_true rfl) ?_
  refine va_putF (D := (dC, dI)) (ci := 1) (v := .ref q_1) (ty := .object "ShortEnough$Reckoning") (C := RX1) (T := TX1) (N := 14) hx hb hts zn_X1_init_X1 tyX1 tyX1_ok nmX1 hown hK hP hD hS 0 rfl rfl 0 (by decide) (hts (.fieldLink RX1 12 "ShortEnough$FullSearch" "reckoning" "LShortEnough$Reckoning;") zw_X1_init_139) (fun _ h9 => h9) rfl hin rfl (by decide +kernel) rfl rfl (Nat.le_of_ble_eq_true rfl) dX1_init_12 ?_
  clear hP hD hS
  intro H locs hP hD hS
  replace hP : va_P (dC, dI) vwCl [(h0, .inr (1, [.ref q_1, .null, .int 0, .int 0, .null, .null, .int 0, .int 0, .int 0, .int 0, .int 0, .null, .null, .null])), zV7 q_1 (u_3.1 0) 0 0, zVl (u_3.1 0) (u_3.1 1) 14 (fun _ => 0)] H := hP
  replace hD := zDW hD hP rfl
  refine lv_aload_n hx hb dX1_init_15 rfl (lv_at hl 0 rfl) ?_
  refine lv_bipush (v := 14) hx hb dX1_init_16 zcb_14 ?_
  refine va_newa (atype := .int) (ty := .int) (N' := 14) (a0 := (14, .inl (fun _ => 0))) hx hb (hts (.arrayClass .int) zw_X1_init_140) rfl hK hP hD hS hA (fun _ => rfl) (by decide +kernel) (by decide +kernel) (Nat.le_of_ble_eq_true rfl) (Nat.le_of_ble_eq_true rfl) (Nat.le_of_ble_eq_true rfl) dX1_init_18 (fun q_5 a_6 H hK hP hD hS => ?_)
  replace hP : va_P (dC, dI) vwCl [(h0, .inr (1, [.ref q_1, .null, .int 0, .int 0, .null, .null, .int 0, .int 0, .int 0, .int 0, .int 0, .null, .null, .null])), zV7 q_1 (u_3.1 0) 0 0, zVl (u_3.1 0) (u_3.1 1) 14 (fun _ => 0), zVi q_5 a_6 14 (fun _ => 0)] H := hP
  replace hD := zDW hD hP rfl
  replace hK : va_K (dC, dI) vwCl [((u_3.1 1), .long), (a_6, .int)] s := hK
  refine W.widen (k := 3) (n := 31) (Nat.le_of_ble_eq_true rfl) (Nat.le_of_ble_eq_true rfl) ?_
  refine va_putF (D := (dC, dI)) (ci := 1) (v := .ref q_5) (ty := .array .int) (C := RX1) (T := TX1) (N := 14) hx hb hts zn_X1_init_X1 tyX1 tyX1_ok nmX1 hown hK hP hD hS 0 rfl rfl 1 (by decide) (hts (.fieldLink RX1 18 "ShortEnough$FullSearch" "choice" "[I") zw_X1_init_141) (fun _ h9 => h9) rfl hin rfl (by decide +kernel) rfl rfl (Nat.le_of_ble_eq_true rfl) dX1_init_20 ?_
  clear hP hD hS
  intro H locs hP hD hS
  replace hP : va_P (dC, dI) vwCl [(h0, .inr (1, [.ref q_1, .ref q_5, .int 0, .int 0, .null, .null, .int 0, .int 0, .int 0, .int 0, .int 0, .null, .null, .null])), zV7 q_1 (u_3.1 0) 0 0, zVl (u_3.1 0) (u_3.1 1) 14 (fun _ => 0), zVi q_5 a_6 14 (fun _ => 0)] H := hP
  replace hD := zDW hD hP rfl
  refine lv_aload_n hx hb dX1_init_23 rfl (lv_at hl 0 rfl) ?_
  refine lv_iconst (v := 0) hx hb dX1_init_24 zci_0 ?_
  refine va_newa (atype := .int) (ty := .int) (N' := 0) (a0 := (0, .inl (fun _ => 0))) hx hb (hts (.arrayClass .int) zw_X1_init_140) rfl hK hP hD hS hA (fun _ => rfl) (by decide +kernel) (by decide +kernel) (Nat.le_of_ble_eq_true rfl) (Nat.le_of_ble_eq_true rfl) (Nat.le_of_ble_eq_true rfl) dX1_init_25 (fun q_7 a_8 H hK hP hD hS => ?_)
  replace hP : va_P (dC, dI) vwCl [(h0, .inr (1, [.ref q_1, .ref q_5, .int 0, .int 0, .null, .null, .int 0, .int 0, .int 0, .int 0, .int 0, .null, .null, .null])), zV7 q_1 (u_3.1 0) 0 0, zVl (u_3.1 0) (u_3.1 1) 14 (fun _ => 0), zVi q_5 a_6 14 (fun _ => 0), zVi q_7 a_8 0 (fun _ => 0)] H := hP
  replace hD := zDW hD hP rfl
  replace hK : va_K (dC, dI) vwCl [((u_3.1 1), .long), (a_6, .int), (a_8, .int)] s := hK
  refine W.widen (k := 4) (n := 31) (Nat.le_of_ble_eq_true rfl) (Nat.le_of_ble_eq_true rfl) ?_
  refine va_put (D := (dC, dI)) (ci := 1) (v := .ref q_7) (ty := .array .int) (C := RX1) (T := TX1) (N := 14) hx hb hts zn_X1_init_X1 tyX1 tyX1_ok nmX1 hown hK hP hD hS 0 rfl rfl 4 (by decide) (hts (.fieldLink RX1 22 "ShortEnough$FullSearch" "prices" "[I") zw_X1_init_142) (fun _ h9 => h9) rfl (by decide +kernel) rfl rfl (Nat.le_of_ble_eq_true rfl) dX1_init_27 ?_
  clear hP hD hS
  intro H locs hP hD hS
  replace hP : va_P (dC, dI) vwCl [(h0, .inr (1, [.ref q_1, .ref q_5, .int 0, .int 0, .ref q_7, .null, .int 0, .int 0, .int 0, .int 0, .int 0, .null, .null, .null])), zV7 q_1 (u_3.1 0) 0 0, zVl (u_3.1 0) (u_3.1 1) 14 (fun _ => 0), zVi q_5 a_6 14 (fun _ => 0), zVi q_7 a_8 0 (fun _ => 0)] H := hP
  replace hD := zDW hD hP rfl
  refine lv_aload_n hx hb dX1_init_30 rfl (lv_at hl 0 rfl) ?_
  refine lv_iconst (v := 0) hx hb dX1_init_31 zci_0 ?_
  refine va_newa (atype := .int) (ty := .int) (N' := 0) (a0 := (0, .inl (fun _ => 0))) hx hb (hts (.arrayClass .int) zw_X1_init_140) rfl hK hP hD hS hA (fun _ => rfl) (by decide +kernel) (by decide +kernel) (Nat.le_of_ble_eq_true rfl) (Nat.le_of_ble_eq_true rfl) (Nat.le_of_ble_eq_true rfl) dX1_init_32 (fun q_9 a_10 H hK hP hD hS => ?_)
  replace hP : va_P (dC, dI) vwCl [(h0, .inr (1, [.ref q_1, .ref q_5, .int 0, .int 0, .ref q_7, .null, .int 0, .int 0, .int 0, .int 0, .int 0, .null, .null, .null])), zV7 q_1 (u_3.1 0) 0 0, zVl (u_3.1 0) (u_3.1 1) 14 (fun _ => 0), zVi q_5 a_6 14 (fun _ => 0), zVi q_7 a_8 0 (fun _ => 0), zVi q_9 a_10 0 (fun _ => 0)] H := hP
  replace hD := zDW hD hP rfl
  replace hK : va_K (dC, dI) vwCl [((u_3.1 1), .long), (a_6, .int), (a_8, .int), (a_10, .int)] s := hK
  refine W.widen (k := 5) (n := 31) (Nat.le_of_ble_eq_true rfl) (Nat.le_of_ble_eq_true rfl) ?_
  refine va_put (D := (dC, dI)) (ci := 1) (v := .ref q_9) (ty := .array .int) (C := RX1) (T := TX1) (N := 14) hx hb hts zn_X1_init_X1 tyX1 tyX1_ok nmX1 hown hK hP hD hS 0 rfl rfl 5 (by decide) (hts (.fieldLink RX1 25 "ShortEnough$FullSearch" "errors" "[I") zw_X1_init_143) (fun _ h9 => h9) rfl (by decide +kernel) rfl rfl (Nat.le_of_ble_eq_true rfl) dX1_init_34 ?_
  clear hP hD hS
  intro H locs hP hD hS
  replace hP : va_P (dC, dI) vwCl [(h0, .inr (1, [.ref q_1, .ref q_5, .int 0, .int 0, .ref q_7, .ref q_9, .int 0, .int 0, .int 0, .int 0, .int 0, .null, .null, .null])), zV7 q_1 (u_3.1 0) 0 0, zVl (u_3.1 0) (u_3.1 1) 14 (fun _ => 0), zVi q_5 a_6 14 (fun _ => 0), zVi q_7 a_8 0 (fun _ => 0), zVi q_9 a_10 0 (fun _ => 0)] H := hP
  replace hD := zDW hD hP rfl
  refine lv_aload_n hx hb dX1_init_37 rfl (lv_at hl 0 rfl) ?_
  refine lv_iconst (v := (-1)) hx hb dX1_init_38 zci_m1 ?_
  refine va_put (D := (dC, dI)) (ci := 1) (v := .int (-1)) (ty := .int) (C := RX1) (T := TX1) (N := 14) hx hb hts zn_X1_init_X1 tyX1 tyX1_ok nmX1 hown hK hP hD hS 0 rfl rfl 7 (by decide) (hts (.fieldLink RX1 28 "ShortEnough$FullSearch" "best" "I") zw_X1_init_144) (fun _ h9 => h9) rfl (by decide +kernel) rfl rfl (Nat.le_of_ble_eq_true rfl) dX1_init_39 ?_
  clear hP hD hS
  intro H locs hP hD hS
  replace hP : va_P (dC, dI) vwCl [(h0, .inr (1, [.ref q_1, .ref q_5, .int 0, .int 0, .ref q_7, .ref q_9, .int 0, .int (-1), .int 0, .int 0, .int 0, .null, .null, .null])), zV7 q_1 (u_3.1 0) 0 0, zVl (u_3.1 0) (u_3.1 1) 14 (fun _ => 0), zVi q_5 a_6 14 (fun _ => 0), zVi q_7 a_8 0 (fun _ => 0), zVi q_9 a_10 0 (fun _ => 0)] H := hP
  replace hD := zDW hD hP rfl
  refine lv_aload_n hx hb dX1_init_42 rfl (lv_at hl 0 rfl) ?_
  refine lv_iconst (v := (-1)) hx hb dX1_init_43 zci_m1 ?_
  refine va_put (D := (dC, dI)) (ci := 1) (v := .int (-1)) (ty := .int) (C := RX1) (T := TX1) (N := 14) hx hb hts zn_X1_init_X1 tyX1 tyX1_ok nmX1 hown hK hP hD hS 0 rfl rfl 9 (by decide) (hts (.fieldLink RX1 32 "ShortEnough$FullSearch" "frontOf" "I") zw_X1_init_145) (fun _ h9 => h9) rfl (by decide +kernel) rfl rfl (Nat.le_of_ble_eq_true rfl) dX1_init_44 ?_
  clear hP hD hS
  intro H locs hP hD hS
  replace hP : va_P (dC, dI) vwCl [(h0, .inr (1, [.ref q_1, .ref q_5, .int 0, .int 0, .ref q_7, .ref q_9, .int 0, .int (-1), .int 0, .int (-1), .int 0, .null, .null, .null])), zV7 q_1 (u_3.1 0) 0 0, zVl (u_3.1 0) (u_3.1 1) 14 (fun _ => 0), zVi q_5 a_6 14 (fun _ => 0), zVi q_7 a_8 0 (fun _ => 0), zVi q_9 a_10 0 (fun _ => 0)] H := hP
  replace hD := zDW hD hP rfl
  refine lv_aload_n hx hb dX1_init_47 rfl (lv_at hl 0 rfl) ?_
  refine lv_iconst (v := 0) hx hb dX1_init_48 zci_0 ?_
  refine va_newa (atype := .int) (ty := .int) (N' := 0) (a0 := (0, .inl (fun _ => 0))) hx hb (hts (.arrayClass .int) zw_X1_init_140) rfl hK hP hD hS hA (fun _ => rfl) (by decide +kernel) (by decide +kernel) (Nat.le_of_ble_eq_true rfl) (Nat.le_of_ble_eq_true rfl) (Nat.le_of_ble_eq_true rfl) dX1_init_49 (fun q_11 a_12 H hK hP hD hS => ?_)
  replace hP : va_P (dC, dI) vwCl [(h0, .inr (1, [.ref q_1, .ref q_5, .int 0, .int 0, .ref q_7, .ref q_9, .int 0, .int (-1), .int 0, .int (-1), .int 0, .null, .null, .null])), zV7 q_1 (u_3.1 0) 0 0, zVl (u_3.1 0) (u_3.1 1) 14 (fun _ => 0), zVi q_5 a_6 14 (fun _ => 0), zVi q_7 a_8 0 (fun _ => 0), zVi q_9 a_10 0 (fun _ => 0), zVi q_11 a_12 0 (fun _ => 0)] H := hP
  replace hD := zDW hD hP rfl
  replace hK : va_K (dC, dI) vwCl [((u_3.1 1), .long), (a_6, .int), (a_8, .int), (a_10, .int), (a_12, .int)] s := hK
  refine W.widen (k := 6) (n := 31) (Nat.le_of_ble_eq_true rfl) (Nat.le_of_ble_eq_true rfl) ?_
  refine va_put (D := (dC, dI)) (ci := 1) (v := .ref q_11) (ty := .array .int) (C := RX1) (T := TX1) (N := 14) hx hb hts zn_X1_init_X1 tyX1 tyX1_ok nmX1 hown hK hP hD hS 0 rfl rfl 11 (by decide) (hts (.fieldLink RX1 35 "ShortEnough$FullSearch" "frontPrice" "[I") zw_X1_init_146) (fun _ h9 => h9) rfl (by decide +kernel) rfl rfl (Nat.le_of_ble_eq_true rfl) dX1_init_51 ?_
  clear hP hD hS
  intro H locs hP hD hS
  replace hP : va_P (dC, dI) vwCl [(h0, .inr (1, [.ref q_1, .ref q_5, .int 0, .int 0, .ref q_7, .ref q_9, .int 0, .int (-1), .int 0, .int (-1), .int 0, .ref q_11, .null, .null])), zV7 q_1 (u_3.1 0) 0 0, zVl (u_3.1 0) (u_3.1 1) 14 (fun _ => 0), zVi q_5 a_6 14 (fun _ => 0), zVi q_7 a_8 0 (fun _ => 0), zVi q_9 a_10 0 (fun _ => 0), zVi q_11 a_12 0 (fun _ => 0)] H := hP
  replace hD := zDW hD hP rfl
  refine lv_aload_n hx hb dX1_init_54 rfl (lv_at hl 0 rfl) ?_
  refine lv_iconst (v := 0) hx hb dX1_init_55 zci_0 ?_
  refine va_newa (atype := .int) (ty := .int) (N' := 0) (a0 := (0, .inl (fun _ => 0))) hx hb (hts (.arrayClass .int) zw_X1_init_140) rfl hK hP hD hS hA (fun _ => rfl) (by decide +kernel) (by decide +kernel) (Nat.le_of_ble_eq_true rfl) (Nat.le_of_ble_eq_true rfl) (Nat.le_of_ble_eq_true rfl) dX1_init_56 (fun q_13 a_14 H hK hP hD hS => ?_)
  replace hP : va_P (dC, dI) vwCl [(h0, .inr (1, [.ref q_1, .ref q_5, .int 0, .int 0, .ref q_7, .ref q_9, .int 0, .int (-1), .int 0, .int (-1), .int 0, .ref q_11, .null, .null])), zV7 q_1 (u_3.1 0) 0 0, zVl (u_3.1 0) (u_3.1 1) 14 (fun _ => 0), zVi q_5 a_6 14 (fun _ => 0), zVi q_7 a_8 0 (fun _ => 0), zVi q_9 a_10 0 (fun _ => 0), zVi q_11 a_12 0 (fun _ => 0), zVi q_13 a_14 0 (fun _ => 0)] H := hP
  replace hD := zDW hD hP rfl
  replace hK : va_K (dC, dI) vwCl [((u_3.1 1), .long), (a_6, .int), (a_8, .int), (a_10, .int), (a_12, .int), (a_14, .int)] s := hK
  refine W.widen (k := 7) (n := 31) (Nat.le_of_ble_eq_true rfl) (Nat.le_of_ble_eq_true rfl) ?_
  refine va_put (D := (dC, dI)) (ci := 1) (v := .ref q_13) (ty := .array .int) (C := RX1) (T := TX1) (N := 14) hx hb hts zn_X1_init_X1 tyX1 tyX1_ok nmX1 hown hK hP hD hS 0 rfl rfl 12 (by decide) (hts (.fieldLink RX1 38 "ShortEnough$FullSearch" "frontError" "[I") zw_X1_init_147) (fun _ h9 => h9) rfl (by decide +kernel) rfl rfl (Nat.le_of_ble_eq_true rfl) dX1_init_58 ?_
  clear hP hD hS
  intro H locs hP hD hS
  replace hP : va_P (dC, dI) vwCl [(h0, .inr (1, [.ref q_1, .ref q_5, .int 0, .int 0, .ref q_7, .ref q_9, .int 0, .int (-1), .int 0, .int (-1), .int 0, .ref q_11, .ref q_13, .null])), zV7 q_1 (u_3.1 0) 0 0, zVl (u_3.1 0) (u_3.1 1) 14 (fun _ => 0), zVi q_5 a_6 14 (fun _ => 0), zVi q_7 a_8 0 (fun _ => 0), zVi q_9 a_10 0 (fun _ => 0), zVi q_11 a_12 0 (fun _ => 0), zVi q_13 a_14 0 (fun _ => 0)] H := hP
  replace hD := zDW hD hP rfl
  refine lv_aload_n hx hb dX1_init_61 rfl (lv_at hl 0 rfl) ?_
  refine lv_iconst (v := 0) hx hb dX1_init_62 zci_0 ?_
  refine va_newa (atype := .int) (ty := .int) (N' := 0) (a0 := (0, .inl (fun _ => 0))) hx hb (hts (.arrayClass .int) zw_X1_init_140) rfl hK hP hD hS hA (fun _ => rfl) (by decide +kernel) (by decide +kernel) (Nat.le_of_ble_eq_true rfl) (Nat.le_of_ble_eq_true rfl) (Nat.le_of_ble_eq_true rfl) dX1_init_63 (fun q_15 a_16 H hK hP hD hS => ?_)
  replace hP : va_P (dC, dI) vwCl [(h0, .inr (1, [.ref q_1, .ref q_5, .int 0, .int 0, .ref q_7, .ref q_9, .int 0, .int (-1), .int 0, .int (-1), .int 0, .ref q_11, .ref q_13, .null])), zV7 q_1 (u_3.1 0) 0 0, zVl (u_3.1 0) (u_3.1 1) 14 (fun _ => 0), zVi q_5 a_6 14 (fun _ => 0), zVi q_7 a_8 0 (fun _ => 0), zVi q_9 a_10 0 (fun _ => 0), zVi q_11 a_12 0 (fun _ => 0), zVi q_13 a_14 0 (fun _ => 0), zVi q_15 a_16 0 (fun _ => 0)] H := hP
  replace hD := zDW hD hP rfl
  replace hK : va_K (dC, dI) vwCl [((u_3.1 1), .long), (a_6, .int), (a_8, .int), (a_10, .int), (a_12, .int), (a_14, .int), (a_16, .int)] s := hK
  refine W.widen (k := 8) (n := 31) (Nat.le_of_ble_eq_true rfl) (Nat.le_of_ble_eq_true rfl) ?_
  refine va_put (D := (dC, dI)) (ci := 1) (v := .ref q_15) (ty := .array .int) (C := RX1) (T := TX1) (N := 14) hx hb hts zn_X1_init_X1 tyX1 tyX1_ok nmX1 hown hK hP hD hS 0 rfl rfl 13 (by decide) (hts (.fieldLink RX1 41 "ShortEnough$FullSearch" "frontMany" "[I") zw_X1_init_148) (fun _ h9 => h9) rfl (by decide +kernel) rfl rfl (Nat.le_of_ble_eq_true rfl) dX1_init_65 ?_
  clear hP hD hS
  intro H locs hP hD hS
  replace hP : va_P (dC, dI) vwCl [zV1 h0 q_1 q_5 0 0 q_7 q_9 0 (-1) 0 (-1) 0 q_11 q_13 q_15, zV7 q_1 (u_3.1 0) 0 0, zVl (u_3.1 0) (u_3.1 1) 14 (fun _ => 0), zVi q_5 a_6 14 (fun _ => 0), zVi q_7 a_8 0 (fun _ => 0), zVi q_9 a_10 0 (fun _ => 0), zVi q_11 a_12 0 (fun _ => 0), zVi q_13 a_14 0 (fun _ => 0), zVi q_15 a_16 0 (fun _ => 0)] H := hP
  replace hD := zDW hD hP rfl
  have hP9 := hP.sub (ws' := [zV1 h0 q_1 q_5 0 0 q_7 q_9 0 (-1) 0 (-1) 0 q_11 q_13 q_15, zV7 q_1 (u_3.1 0) 0 0, zVl (u_3.1 0) (u_3.1 1) 14 (fun _ => 0), zVi q_5 a_6 14 (fun _ => 0), zVi q_7 a_8 0 (fun _ => 0), zVi q_9 a_10 0 (fun _ => 0), zVi q_11 a_12 0 (fun _ => 0), zVi q_13 a_14 0 (fun _ => 0), zVi q_15 a_16 0 (fun _ => 0)]) [0, 1, 2, 3, 4, 5, 6, 7, 8] rfl
  have hD9 := hD.sub (ws' := [zV1 h0 q_1 q_5 0 0 q_7 q_9 0 (-1) 0 (-1) 0 q_11 q_13 q_15, zV7 q_1 (u_3.1 0) 0 0, zVl (u_3.1 0) (u_3.1 1) 14 (fun _ => 0), zVi q_5 a_6 14 (fun _ => 0), zVi q_7 a_8 0 (fun _ => 0), zVi q_9 a_10 0 (fun _ => 0), zVi q_11 a_12 0 (fun _ => 0), zVi q_13 a_14 0 (fun _ => 0), zVi q_15 a_16 0 (fun _ => 0)]) [0, 1, 2, 3, 4, 5, 6, 7, 8] (by decide) rfl
  have hK9 := hK.sub (tys' := [((u_3.1 1), .long), (a_6, .int), (a_8, .int), (a_10, .int), (a_12, .int), (a_14, .int), (a_16, .int)]) [0, 1, 2, 3, 4, 5, 6] rfl
  refine W.widen (k := 8) (n := 31) (Nat.le_of_ble_eq_true rfl) (Nat.le_of_ble_eq_true rfl) ?_
  exact W.vret hx hb hr (fun t ht hW => ⟨⟨((fun k => ([q_1, q_5, q_7, q_9, q_11, q_13, q_15, (u_3.1 0), (u_3.1 1), a_6, a_8, a_10, a_12, a_14, a_16] : List Nat).getD k 0), (fun k => ([] : List (Nat → Int32)).getD k (fun _ => 0))), rfl, trivial, by rw [ht]; exact hP9, va_K.moved hW.alike hK9, hD9⟩, hS.F ht⟩) hS.2.2 dX1_init_68
set_option maxHeartbeats 4000000 in
set_option maxRecDepth 100000 in
theorem zc15_X3_init (l : Launch) (dC : Nat → ClassId) (dI : Nat → Nat → Nat) (h0 : Nat) (sz : Nat) : Met l yX3_init wsX3_init ({ frames := 2, cells := 8, slots := 129, locals := 40 }) (va_Pc [.ref h0] (fun U => va_Nw (.methodLinkNest RX3 11 yX7_init RX11) U ∧ U.heap.size = sz ∧ va_P (dC, dI) vwCl [(h0, .inr (3, [.null, .null, .int 0, .int 0, .null, .null, .null, .null, .int 0, .null, .int 0, .int 0, .int 0, .int 0, .int 0, .int 0]))] U.heap ∧ va_K (dC, dI) vwCl [] U ∧ va_D (fun _ => True) [(h0, .inr (3, [.null, .null, .int 0, .int 0, .null, .null, .null, .null, .int 0, .null, .int 0, .int 0, .int 0, .int 0, .int 0, .int 0]))])) (va_Qv (fun (u : zU) => True) (fun u t => va_P (dC, dI) vwCl [zV3 h0 (u.1 0) (u.1 1) 0 0 (u.1 2) (u.1 3) (u.1 4) (u.1 5) 0 (u.1 6) 0 0 0 0 (-1) (-1), zV7 (u.1 0) (u.1 7) 0 0, zVl (u.1 7) (u.1 8) 14 (fun _ => 0), zVi (u.1 1) (u.1 9) 14 (fun _ => 0), zVi (u.1 2) (u.1 10) 14 (fun _ => 0), zVi (u.1 3) (u.1 11) 14 (fun _ => 0), zVi (u.1 4) (u.1 12) 28 (fun _ => 0), zVi (u.1 5) (u.1 13) 28 (fun _ => 0), zVi (u.1 6) (u.1 14) 14 (fun _ => 0)] t.heap ∧ va_K (dC, dI) vwCl [((u.1 8), .long), ((u.1 9), .int), ((u.1 10), .boolean), ((u.1 11), .int), ((u.1 12), .int), ((u.1 13), .int), ((u.1 14), .int)] t ∧ va_D (va_A [(h0, .inr (3, [.null, .null, .int 0, .int 0, .null, .null, .null, .null, .int 0, .null, .int 0, .int 0, .int 0, .int 0, .int 0, .int 0]))] sz) [zV3 h0 (u.1 0) (u.1 1) 0 0 (u.1 2) (u.1 3) (u.1 4) (u.1 5) 0 (u.1 6) 0 0 0 0 (-1) (-1), zV7 (u.1 0) (u.1 7) 0 0, zVl (u.1 7) (u.1 8) 14 (fun _ => 0), zVi (u.1 1) (u.1 9) 14 (fun _ => 0), zVi (u.1 2) (u.1 10) 14 (fun _ => 0), zVi (u.1 3) (u.1 11) 14 (fun _ => 0), zVi (u.1 4) (u.1 12) 28 (fun _ => 0), zVi (u.1 5) (u.1 13) 28 (fun _ => 0), zVi (u.1 6) (u.1 14) 14 (fun _ => 0)]) (va_A [(h0, .inr (3, [.null, .null, .int 0, .int 0, .null, .null, .null, .null, .int 0, .null, .int 0, .int 0, .int 0, .int 0, .int 0, .int 0]))] sz)) 8 129 (va_A [(h0, .inr (3, [.null, .null, .int 0, .int 0, .null, .null, .null, .null, .int 0, .null, .int 0, .int 0, .int 0, .int 0, .int 0, .int 0]))] sz) := by
  refine Met.ofW (cc := cX3_init) (maxL := 1) (ret := none) (by decide +kernel) rfl ?_
  intro p e s m args below meth c s₁ B hml hv
  obtain ⟨rfl, hn0, hsz, hP, hK, hD0⟩ := hv
  have hx := B.exec
  have hb := B.bytes
  have hr := B.returns
  have hts := atoms_spec (ws := wsX3_init) B.pre
  have hown : s.vm.findClass RX3 = some m.cls := (findClass_of_methodNamed B.named :)
  have hlocks := B.notSynchronized
  have hin : meth.name = "<init>" := (name_of_methodNamed B.named B.method).1
  subst hsz
  replace hD := hD0.self (sz := s.heap.size)
  generalize hAe : va_A [(h0, .inr (3, [.null, .null, .int 0, .int 0, .null, .null, .null, .null, .int 0, .null, .int 0, .int 0, .int 0, .int 0, .int 0, .int 0]))] s.heap.size = A at hD ⊢
  have hA : ∀ q : Nat, s.heap.size ≤ q → A q := fun q h => by rw [← hAe]; exact Or.inr h
  have hS : va_S A s.heap s.heap [] := va_S.rf
  replace hP : va_P (dC, dI) vwCl [(h0, .inr (3, [.null, .null, .int 0, .int 0, .null, .null, .null, .null, .int 0, .null, .int 0, .int 0, .int 0, .int 0, .int 0, .int 0]))] s.heap := hP
  have hl := lv_entry ([.ref h0]) (n := 1) (Nat.le_of_ble_eq_true rfl)
  rw [lg_entry_eq]
  generalize (lg_sl ([.ref h0]) ++ List.replicate (1 - (lg_sl ([.ref h0])).length) Slot.unset).toArray = ls at hl ⊢
  have hl : lv_has ls 1 [(0, .ref h0)] := hl
  refine lv_aload_n hx hb dX3_init_0 rfl (lv_at hl 0 rfl) ?_
  refine W.objInit hx hb hown (hts (.methodLink RX3 3 objectInit) zw_X3_init_155) (hts (.instanceMethod objectInit) zw_X3_init_156) (hts (.code objectInit ⟨#[0xb1]⟩ 1 none) zw_X3_init_157) rfl (by rw [hml]; exact hl.1) rfl dX3_init_1 (Nat.le_of_ble_eq_true rfl) (Nat.le_of_ble_eq_true rfl) ?_
  refine W.eq (g2 := F0 m 4 ls []) rfl ?_
  refine lv_aload_n hx hb dX3_init_4 rfl (lv_at hl 0 rfl) ?_
  refine va_new (ci := 7) (fs := [.null, .int 0, .int 0]) (C := RX7) (T := TX7) (N := 3) hx hb hts zn_X3_init_X7 tyX7 tyX7_ok hown (hts (.classLink RX3 9 RX7) zw_X3_init_159) (hts (.instantiable RX7 3) zw_X3_init_160) (hts (.initialized RX7) zw_X3_init_161) hK hP hD hS hA rfl zd_X7 (Nat.le_of_ble_eq_true rfl) (Nat.le_of_ble_eq_true rfl) dX3_init_5 (fun q_1 H hP hD hS => ?_)
  replace hP : va_P (dC, dI) vwCl [(h0, .inr (3, [.null, .null, .int 0, .int 0, .null, .null, .null, .null, .int 0, .null, .int 0, .int 0, .int 0, .int 0, .int 0, .int 0])), (q_1, .inr (7, [.null, .int 0, .int 0]))] H := hP
  replace hD := zDW hD hP rfl
  refine W.widen (k := 1) (n := 3) (Nat.le_of_ble_eq_true rfl) (Nat.le_of_ble_eq_true rfl) ?_
  refine lv_dup hx hb dX3_init_8 rfl ?_
  replace hPc := hP.sub (ws' := [(q_1, .inr (7, [.null, .int 0, .int 0]))]) [1] rfl
  replace hDc := hD.sub (ws' := [(q_1, .inr (7, [.null, .int 0, .int 0]))]) [1] (by decide) rfl
  replace hKc := hK.sub (tys' := []) [] rfl
  replace hFc := va_free (wc := [(q_1, .inr (7, [.null, .int 0, .int 0]))]) hD hS hA [1] rfl
  refine va_callv (va_runIN (As := []) (rest := [.ref q_1, .ref h0]) ⟨hx, hb, hml, hown, hts⟩ (zc13_X7_init l dC dI q_1 H.size) ⟨va_cnB (host := RX11) 0 hts gX3_init_X7_init_n11 rfl rfl rfl hn0 (hts (.initialized RX7) zw_X3_init_161) (by decide +kernel) ⟨Nat.le_of_ble_eq_true rfl, Nat.le_of_ble_eq_true rfl⟩, rfl, (hts (.instanceMethod yX7_init) zw_X3_init_162)⟩ ⟨fun a U g mk q => by obtain ⟨q0, q1, qP, qK, qD⟩ := q; exact ⟨q0, q1, qP, va_K.moved (u := U) (U := U.calling g mk a) (Vm.Alike.refl U.vm) qK, qD⟩, fun U hU hW => ⟨rfl, by rw [hU], by rw [hU]; exact hPc, va_K.moved hW.alike hKc, hDc.weaken (fun _ _ _ _ => trivial)⟩⟩ rfl rfl hl.1 rfl (lv_room (Nat.le_of_ble_eq_true rfl)) dX3_init_9 ⟨Nat.le_of_ble_eq_true rfl, Nat.le_of_ble_eq_true rfl⟩) hS (fun q _ h => hFc q h) hFc (fun u_3 t H1 locs ht hvm hw_4 hB hz1 hk1 hS => ?_)
  obtain ⟨hP1, hK1, hD1⟩ := hB
  rw [ht] at hP1
  replace hK1 := va_K.moved hvm.symm hK1
  obtain ⟨hP, hD⟩ := va_join (wr := [(h0, .inr (3, [.null, .null, .int 0, .int 0, .null, .null, .null, .null, .int 0, .null, .int 0, .int 0, .int 0, .int 0, .int 0, .int 0]))]) (w1 := [zV7 q_1 (u_3.1 0) 0 0, zVl (u_3.1 0) (u_3.1 1) 14 (fun _ => 0)]) hP hD [1] [0] rfl rfl (by decide) (by decide) hk1 hFc hP1 hD1
  replace hK := hK.app hK1
  generalize H1 = H at hP hS ⊢
  replace hP : va_P (dC, dI) vwCl [(h0, .inr (3, [.null, .null, .int 0, .int 0, .null, .null, .null, .null, .int 0, .null, .int 0, .int 0, .int 0, .int 0, .int 0, .int 0])), zV7 q_1 (u_3.1 0) 0 0, zVl (u_3.1 0) (u_3.1 1) 14 (fun _ => 0)] H := hP
  replace hD := zDW hD hP rfl
  replace hK : va_K (dC, dI) vwCl [((u_3.1 1), .long)] s := hK
  refine W.widen (k := 2) (n := 17) (Nat.le_of_ble_eq_true rfl) (Nat.le_of_ble_eq_true rfl) ?_
  refine va_putF (D := (dC, dI)) (ci := 3) (v := .ref q_1) (ty := .object "ShortEnough$Reckoning") (C := RX3) (T := TX3) (N := 16) hx hb hts zn_X3_init_X3 tyX3 tyX3_ok nmX3 hown hK hP hD hS 0 rfl rfl 0 (by decide) (hts (.fieldLink RX3 12 "ShortEnough$LocalSearch" "reckoning" "LShortEnough$Reckoning;") zw_X3_init_164) (fun _ h9 => h9) rfl hin rfl (by decide +kernel) rfl rfl (Nat.le_of_ble_eq_true rfl) dX3_init_12 ?_
  clear hP hD hS
  intro H locs hP hD hS
  replace hP : va_P (dC, dI) vwCl [(h0, .inr (3, [.ref q_1, .null, .int 0, .int 0, .null, .null, .null, .null, .int 0, .null, .int 0, .int 0, .int 0, .int 0, .int 0, .int 0])), zV7 q_1 (u_3.1 0) 0 0, zVl (u_3.1 0) (u_3.1 1) 14 (fun _ => 0)] H := hP
  replace hD := zDW hD hP rfl
  refine lv_aload_n hx hb dX3_init_15 rfl (lv_at hl 0 rfl) ?_
  refine lv_bipush (v := 14) hx hb dX3_init_16 zcb_14 ?_
  refine va_newa (atype := .int) (ty := .int) (N' := 14) (a0 := (14, .inl (fun _ => 0))) hx hb (hts (.arrayClass .int) zw_X3_init_165) rfl hK hP hD hS hA (fun _ => rfl) (by decide +kernel) (by decide +kernel) (Nat.le_of_ble_eq_true rfl) (Nat.le_of_ble_eq_true rfl) (Nat.le_of_ble_eq_true rfl) dX3_init_18 (fun q_5 a_6 H hK hP hD hS => ?_)
  replace hP : va_P (dC, dI) vwCl [(h0, .inr (3, [.ref q_1, .null, .int 0, .int 0, .null, .null, .null, .null, .int 0, .null, .int 0, .int 0, .int 0, .int 0, .int 0, .int 0])), zV7 q_1 (u_3.1 0) 0 0, zVl (u_3.1 0) (u_3.1 1) 14 (fun _ => 0), zVi q_5 a_6 14 (fun _ => 0)] H := hP
  replace hD := zDW hD hP rfl
  replace hK : va_K (dC, dI) vwCl [((u_3.1 1), .long), (a_6, .int)] s := hK
  refine W.widen (k := 3) (n := 31) (Nat.le_of_ble_eq_true rfl) (Nat.le_of_ble_eq_true rfl) ?_
  refine va_putF (D := (dC, dI)) (ci := 3) (v := .ref q_5) (ty := .array .int) (C := RX3) (T := TX3) (N := 16) hx hb hts zn_X3_init_X3 tyX3 tyX3_ok nmX3 hown hK hP hD hS 0 rfl rfl 1 (by decide) (hts (.fieldLink RX3 18 "ShortEnough$LocalSearch" "near" "[I") zw_X3_init_166) (fun _ h9 => h9) rfl hin rfl (by decide +kernel) rfl rfl (Nat.le_of_ble_eq_true rfl) dX3_init_20 ?_
  clear hP hD hS
  intro H locs hP hD hS
  replace hP : va_P (dC, dI) vwCl [(h0, .inr (3, [.ref q_1, .ref q_5, .int 0, .int 0, .null, .null, .null, .null, .int 0, .null, .int 0, .int 0, .int 0, .int 0, .int 0, .int 0])), zV7 q_1 (u_3.1 0) 0 0, zVl (u_3.1 0) (u_3.1 1) 14 (fun _ => 0), zVi q_5 a_6 14 (fun _ => 0)] H := hP
  replace hD := zDW hD hP rfl
  refine lv_aload_n hx hb dX3_init_23 rfl (lv_at hl 0 rfl) ?_
  refine lv_bipush (v := 14) hx hb dX3_init_24 zcb_14 ?_
  refine va_newa (atype := .boolean) (ty := .boolean) (N' := 14) (a0 := (14, .inl (fun _ => 0))) hx hb (hts (.arrayClass .boolean) zw_X3_init_167) rfl hK hP hD hS hA (fun _ => rfl) (by decide +kernel) (by decide +kernel) (Nat.le_of_ble_eq_true rfl) (Nat.le_of_ble_eq_true rfl) (Nat.le_of_ble_eq_true rfl) dX3_init_26 (fun q_7 a_8 H hK hP hD hS => ?_)
  replace hP : va_P (dC, dI) vwCl [(h0, .inr (3, [.ref q_1, .ref q_5, .int 0, .int 0, .null, .null, .null, .null, .int 0, .null, .int 0, .int 0, .int 0, .int 0, .int 0, .int 0])), zV7 q_1 (u_3.1 0) 0 0, zVl (u_3.1 0) (u_3.1 1) 14 (fun _ => 0), zVi q_5 a_6 14 (fun _ => 0), zVi q_7 a_8 14 (fun _ => 0)] H := hP
  replace hD := zDW hD hP rfl
  replace hK : va_K (dC, dI) vwCl [((u_3.1 1), .long), (a_6, .int), (a_8, .boolean)] s := hK
  refine W.widen (k := 4) (n := 45) (Nat.le_of_ble_eq_true rfl) (Nat.le_of_ble_eq_true rfl) ?_
  refine va_putF (D := (dC, dI)) (ci := 3) (v := .ref q_7) (ty := .array .boolean) (C := RX3) (T := TX3) (N := 16) hx hb hts zn_X3_init_X3 tyX3 tyX3_ok nmX3 hown hK hP hD hS 0 rfl rfl 4 (by decide) (hts (.fieldLink RX3 22 "ShortEnough$LocalSearch" "changed" "[Z") zw_X3_init_168) (fun _ h9 => h9) rfl hin rfl (by decide +kernel) rfl rfl (Nat.le_of_ble_eq_true rfl) dX3_init_28 ?_
  clear hP hD hS
  intro H locs hP hD hS
  replace hP : va_P (dC, dI) vwCl [(h0, .inr (3, [.ref q_1, .ref q_5, .int 0, .int 0, .ref q_7, .null, .null, .null, .int 0, .null, .int 0, .int 0, .int 0, .int 0, .int 0, .int 0])), zV7 q_1 (u_3.1 0) 0 0, zVl (u_3.1 0) (u_3.1 1) 14 (fun _ => 0), zVi q_5 a_6 14 (fun _ => 0), zVi q_7 a_8 14 (fun _ => 0)] H := hP
  replace hD := zDW hD hP rfl
  refine lv_aload_n hx hb dX3_init_31 rfl (lv_at hl 0 rfl) ?_
  refine lv_bipush (v := 14) hx hb dX3_init_32 zcb_14 ?_
  refine va_newa (atype := .int) (ty := .int) (N' := 14) (a0 := (14, .inl (fun _ => 0))) hx hb (hts (.arrayClass .int) zw_X3_init_165) rfl hK hP hD hS hA (fun _ => rfl) (by decide +kernel) (by decide +kernel) (Nat.le_of_ble_eq_true rfl) (Nat.le_of_ble_eq_true rfl) (Nat.le_of_ble_eq_true rfl) dX3_init_34 (fun q_9 a_10 H hK hP hD hS => ?_)
  replace hP : va_P (dC, dI) vwCl [(h0, .inr (3, [.ref q_1, .ref q_5, .int 0, .int 0, .ref q_7, .null, .null, .null, .int 0, .null, .int 0, .int 0, .int 0, .int 0, .int 0, .int 0])), zV7 q_1 (u_3.1 0) 0 0, zVl (u_3.1 0) (u_3.1 1) 14 (fun _ => 0), zVi q_5 a_6 14 (fun _ => 0), zVi q_7 a_8 14 (fun _ => 0), zVi q_9 a_10 14 (fun _ => 0)] H := hP
  replace hD := zDW hD hP rfl
  replace hK : va_K (dC, dI) vwCl [((u_3.1 1), .long), (a_6, .int), (a_8, .boolean), (a_10, .int)] s := hK
  refine W.widen (k := 5) (n := 59) (Nat.le_of_ble_eq_true rfl) (Nat.le_of_ble_eq_true rfl) ?_
  refine va_putF (D := (dC, dI)) (ci := 3) (v := .ref q_9) (ty := .array .int) (C := RX3) (T := TX3) (N := 16) hx hb hts zn_X3_init_X3 tyX3 tyX3_ok nmX3 hown hK hP hD hS 0 rfl rfl 5 (by decide) (hts (.fieldLink RX3 26 "ShortEnough$LocalSearch" "unchanged" "[I") zw_X3_init_169) (fun _ h9 => h9) rfl hin rfl (by decide +kernel) rfl rfl (Nat.le_of_ble_eq_true rfl) dX3_init_36 ?_
  clear hP hD hS
  intro H locs hP hD hS
  replace hP : va_P (dC, dI) vwCl [(h0, .inr (3, [.ref q_1, .ref q_5, .int 0, .int 0, .ref q_7, .ref q_9, .null, .null, .int 0, .null, .int 0, .int 0, .int 0, .int 0, .int 0, .int 0])), zV7 q_1 (u_3.1 0) 0 0, zVl (u_3.1 0) (u_3.1 1) 14 (fun _ => 0), zVi q_5 a_6 14 (fun _ => 0), zVi q_7 a_8 14 (fun _ => 0), zVi q_9 a_10 14 (fun _ => 0)] H := hP
  replace hD := zDW hD hP rfl
  refine lv_aload_n hx hb dX3_init_39 rfl (lv_at hl 0 rfl) ?_
  refine lv_bipush (v := 28) hx hb dX3_init_40 zcb_28 ?_
  refine va_newa (atype := .int) (ty := .int) (N' := 28) (a0 := (28, .inl (fun _ => 0))) hx hb (hts (.arrayClass .int) zw_X3_init_165) rfl hK hP hD hS hA (fun _ => rfl) (by decide +kernel) (by decide +kernel) (Nat.le_of_ble_eq_true rfl) (Nat.le_of_ble_eq_true rfl) (Nat.le_of_ble_eq_true rfl) dX3_init_42 (fun q_11 a_12 H hK hP hD hS => ?_)
  replace hP : va_P (dC, dI) vwCl [(h0, .inr (3, [.ref q_1, .ref q_5, .int 0, .int 0, .ref q_7, .ref q_9, .null, .null, .int 0, .null, .int 0, .int 0, .int 0, .int 0, .int 0, .int 0])), zV7 q_1 (u_3.1 0) 0 0, zVl (u_3.1 0) (u_3.1 1) 14 (fun _ => 0), zVi q_5 a_6 14 (fun _ => 0), zVi q_7 a_8 14 (fun _ => 0), zVi q_9 a_10 14 (fun _ => 0), zVi q_11 a_12 28 (fun _ => 0)] H := hP
  replace hD := zDW hD hP rfl
  replace hK : va_K (dC, dI) vwCl [((u_3.1 1), .long), (a_6, .int), (a_8, .boolean), (a_10, .int), (a_12, .int)] s := hK
  refine W.widen (k := 6) (n := 87) (Nat.le_of_ble_eq_true rfl) (Nat.le_of_ble_eq_true rfl) ?_
  refine va_putF (D := (dC, dI)) (ci := 3) (v := .ref q_11) (ty := .array .int) (C := RX3) (T := TX3) (N := 16) hx hb hts zn_X3_init_X3 tyX3 tyX3_ok nmX3 hown hK hP hD hS 0 rfl rfl 6 (by decide) (hts (.fieldLink RX3 29 "ShortEnough$LocalSearch" "partFrom" "[I") zw_X3_init_170) (fun _ h9 => h9) rfl hin rfl (by decide +kernel) rfl rfl (Nat.le_of_ble_eq_true rfl) dX3_init_44 ?_
  clear hP hD hS
  intro H locs hP hD hS
  replace hP : va_P (dC, dI) vwCl [(h0, .inr (3, [.ref q_1, .ref q_5, .int 0, .int 0, .ref q_7, .ref q_9, .ref q_11, .null, .int 0, .null, .int 0, .int 0, .int 0, .int 0, .int 0, .int 0])), zV7 q_1 (u_3.1 0) 0 0, zVl (u_3.1 0) (u_3.1 1) 14 (fun _ => 0), zVi q_5 a_6 14 (fun _ => 0), zVi q_7 a_8 14 (fun _ => 0), zVi q_9 a_10 14 (fun _ => 0), zVi q_11 a_12 28 (fun _ => 0)] H := hP
  replace hD := zDW hD hP rfl
  refine lv_aload_n hx hb dX3_init_47 rfl (lv_at hl 0 rfl) ?_
  refine lv_bipush (v := 28) hx hb dX3_init_48 zcb_28 ?_
  refine va_newa (atype := .int) (ty := .int) (N' := 28) (a0 := (28, .inl (fun _ => 0))) hx hb (hts (.arrayClass .int) zw_X3_init_165) rfl hK hP hD hS hA (fun _ => rfl) (by decide +kernel) (by decide +kernel) (Nat.le_of_ble_eq_true rfl) (Nat.le_of_ble_eq_true rfl) (Nat.le_of_ble_eq_true rfl) dX3_init_50 (fun q_13 a_14 H hK hP hD hS => ?_)
  replace hP : va_P (dC, dI) vwCl [(h0, .inr (3, [.ref q_1, .ref q_5, .int 0, .int 0, .ref q_7, .ref q_9, .ref q_11, .null, .int 0, .null, .int 0, .int 0, .int 0, .int 0, .int 0, .int 0])), zV7 q_1 (u_3.1 0) 0 0, zVl (u_3.1 0) (u_3.1 1) 14 (fun _ => 0), zVi q_5 a_6 14 (fun _ => 0), zVi q_7 a_8 14 (fun _ => 0), zVi q_9 a_10 14 (fun _ => 0), zVi q_11 a_12 28 (fun _ => 0), zVi q_13 a_14 28 (fun _ => 0)] H := hP
  replace hD := zDW hD hP rfl
  replace hK : va_K (dC, dI) vwCl [((u_3.1 1), .long), (a_6, .int), (a_8, .boolean), (a_10, .int), (a_12, .int), (a_14, .int)] s := hK
  refine W.widen (k := 7) (n := 115) (Nat.le_of_ble_eq_true rfl) (Nat.le_of_ble_eq_true rfl) ?_
  refine va_putF (D := (dC, dI)) (ci := 3) (v := .ref q_13) (ty := .array .int) (C := RX3) (T := TX3) (N := 16) hx hb hts zn_X3_init_X3 tyX3 tyX3_ok nmX3 hown hK hP hD hS 0 rfl rfl 7 (by decide) (hts (.fieldLink RX3 32 "ShortEnough$LocalSearch" "partTo" "[I") zw_X3_init_171) (fun _ h9 => h9) rfl hin rfl (by decide +kernel) rfl rfl (Nat.le_of_ble_eq_true rfl) dX3_init_52 ?_
  clear hP hD hS
  intro H locs hP hD hS
  replace hP : va_P (dC, dI) vwCl [(h0, .inr (3, [.ref q_1, .ref q_5, .int 0, .int 0, .ref q_7, .ref q_9, .ref q_11, .ref q_13, .int 0, .null, .int 0, .int 0, .int 0, .int 0, .int 0, .int 0])), zV7 q_1 (u_3.1 0) 0 0, zVl (u_3.1 0) (u_3.1 1) 14 (fun _ => 0), zVi q_5 a_6 14 (fun _ => 0), zVi q_7 a_8 14 (fun _ => 0), zVi q_9 a_10 14 (fun _ => 0), zVi q_11 a_12 28 (fun _ => 0), zVi q_13 a_14 28 (fun _ => 0)] H := hP
  replace hD := zDW hD hP rfl
  refine lv_aload_n hx hb dX3_init_55 rfl (lv_at hl 0 rfl) ?_
  refine lv_bipush (v := 14) hx hb dX3_init_56 zcb_14 ?_
  refine va_newa (atype := .int) (ty := .int) (N' := 14) (a0 := (14, .inl (fun _ => 0))) hx hb (hts (.arrayClass .int) zw_X3_init_165) rfl hK hP hD hS hA (fun _ => rfl) (by decide +kernel) (by decide +kernel) (Nat.le_of_ble_eq_true rfl) (Nat.le_of_ble_eq_true rfl) (Nat.le_of_ble_eq_true rfl) dX3_init_58 (fun q_15 a_16 H hK hP hD hS => ?_)
  replace hP : va_P (dC, dI) vwCl [(h0, .inr (3, [.ref q_1, .ref q_5, .int 0, .int 0, .ref q_7, .ref q_9, .ref q_11, .ref q_13, .int 0, .null, .int 0, .int 0, .int 0, .int 0, .int 0, .int 0])), zV7 q_1 (u_3.1 0) 0 0, zVl (u_3.1 0) (u_3.1 1) 14 (fun _ => 0), zVi q_5 a_6 14 (fun _ => 0), zVi q_7 a_8 14 (fun _ => 0), zVi q_9 a_10 14 (fun _ => 0), zVi q_11 a_12 28 (fun _ => 0), zVi q_13 a_14 28 (fun _ => 0), zVi q_15 a_16 14 (fun _ => 0)] H := hP
  replace hD := zDW hD hP rfl
  replace hK : va_K (dC, dI) vwCl [((u_3.1 1), .long), (a_6, .int), (a_8, .boolean), (a_10, .int), (a_12, .int), (a_14, .int), (a_16, .int)] s := hK
  refine W.widen (k := 8) (n := 129) (Nat.le_of_ble_eq_true rfl) (Nat.le_of_ble_eq_true rfl) ?_
  refine va_putF (D := (dC, dI)) (ci := 3) (v := .ref q_15) (ty := .array .int) (C := RX3) (T := TX3) (N := 16) hx hb hts zn_X3_init_X3 tyX3 tyX3_ok nmX3 hown hK hP hD hS 0 rfl rfl 9 (by decide) (hts (.fieldLink RX3 35 "ShortEnough$LocalSearch" "row" "[I") zw_X3_init_172) (fun _ h9 => h9) rfl hin rfl (by decide +kernel) rfl rfl (Nat.le_of_ble_eq_true rfl) dX3_init_60 ?_
  clear hP hD hS
  intro H locs hP hD hS
  replace hP : va_P (dC, dI) vwCl [zV3 h0 q_1 q_5 0 0 q_7 q_9 q_11 q_13 0 q_15 0 0 0 0 0 0, zV7 q_1 (u_3.1 0) 0 0, zVl (u_3.1 0) (u_3.1 1) 14 (fun _ => 0), zVi q_5 a_6 14 (fun _ => 0), zVi q_7 a_8 14 (fun _ => 0), zVi q_9 a_10 14 (fun _ => 0), zVi q_11 a_12 28 (fun _ => 0), zVi q_13 a_14 28 (fun _ => 0), zVi q_15 a_16 14 (fun _ => 0)] H := hP
  replace hD := zDW hD hP rfl
  refine lv_aload_n hx hb dX3_init_63 rfl (lv_at hl 0 rfl) ?_
  refine lv_iconst (v := (-1)) hx hb dX3_init_64 zci_m1 ?_
  refine va_put (D := (dC, dI)) (ci := 3) (v := .int (-1)) (ty := .int) (C := RX3) (T := TX3) (N := 16) hx hb hts zn_X3_init_X3 tyX3 tyX3_ok nmX3 hown hK hP hD hS 0 rfl rfl 14 (by decide) (hts (.fieldLink RX3 38 "ShortEnough$LocalSearch" "bestGroup" "I") zw_X3_init_173) (fun _ h9 => h9) rfl (by decide +kernel) rfl rfl (Nat.le_of_ble_eq_true rfl) dX3_init_65 ?_
  clear hP hD hS
  intro H locs hP hD hS
  replace hP : va_P (dC, dI) vwCl [zV3 h0 q_1 q_5 0 0 q_7 q_9 q_11 q_13 0 q_15 0 0 0 0 (-1) 0, zV7 q_1 (u_3.1 0) 0 0, zVl (u_3.1 0) (u_3.1 1) 14 (fun _ => 0), zVi q_5 a_6 14 (fun _ => 0), zVi q_7 a_8 14 (fun _ => 0), zVi q_9 a_10 14 (fun _ => 0), zVi q_11 a_12 28 (fun _ => 0), zVi q_13 a_14 28 (fun _ => 0), zVi q_15 a_16 14 (fun _ => 0)] H := hP
  replace hD := zDW hD hP rfl
  refine lv_aload_n hx hb dX3_init_68 rfl (lv_at hl 0 rfl) ?_
  refine lv_iconst (v := (-1)) hx hb dX3_init_69 zci_m1 ?_
  refine va_put (D := (dC, dI)) (ci := 3) (v := .int (-1)) (ty := .int) (C := RX3) (T := TX3) (N := 16) hx hb hts zn_X3_init_X3 tyX3 tyX3_ok nmX3 hown hK hP hD hS 0 rfl rfl 15 (by decide) (hts (.fieldLink RX3 42 "ShortEnough$LocalSearch" "bestFormat" "I") zw_X3_init_174) (fun _ h9 => h9) rfl (by decide +kernel) rfl rfl (Nat.le_of_ble_eq_true rfl) dX3_init_70 ?_
  clear hP hD hS
  intro H locs hP hD hS
  replace hP : va_P (dC, dI) vwCl [zV3 h0 q_1 q_5 0 0 q_7 q_9 q_11 q_13 0 q_15 0 0 0 0 (-1) (-1), zV7 q_1 (u_3.1 0) 0 0, zVl (u_3.1 0) (u_3.1 1) 14 (fun _ => 0), zVi q_5 a_6 14 (fun _ => 0), zVi q_7 a_8 14 (fun _ => 0), zVi q_9 a_10 14 (fun _ => 0), zVi q_11 a_12 28 (fun _ => 0), zVi q_13 a_14 28 (fun _ => 0), zVi q_15 a_16 14 (fun _ => 0)] H := hP
  replace hD := zDW hD hP rfl
  have hP9 := hP.sub (ws' := [zV3 h0 q_1 q_5 0 0 q_7 q_9 q_11 q_13 0 q_15 0 0 0 0 (-1) (-1), zV7 q_1 (u_3.1 0) 0 0, zVl (u_3.1 0) (u_3.1 1) 14 (fun _ => 0), zVi q_5 a_6 14 (fun _ => 0), zVi q_7 a_8 14 (fun _ => 0), zVi q_9 a_10 14 (fun _ => 0), zVi q_11 a_12 28 (fun _ => 0), zVi q_13 a_14 28 (fun _ => 0), zVi q_15 a_16 14 (fun _ => 0)]) [0, 1, 2, 3, 4, 5, 6, 7, 8] rfl
  have hD9 := hD.sub (ws' := [zV3 h0 q_1 q_5 0 0 q_7 q_9 q_11 q_13 0 q_15 0 0 0 0 (-1) (-1), zV7 q_1 (u_3.1 0) 0 0, zVl (u_3.1 0) (u_3.1 1) 14 (fun _ => 0), zVi q_5 a_6 14 (fun _ => 0), zVi q_7 a_8 14 (fun _ => 0), zVi q_9 a_10 14 (fun _ => 0), zVi q_11 a_12 28 (fun _ => 0), zVi q_13 a_14 28 (fun _ => 0), zVi q_15 a_16 14 (fun _ => 0)]) [0, 1, 2, 3, 4, 5, 6, 7, 8] (by decide) rfl
  have hK9 := hK.sub (tys' := [((u_3.1 1), .long), (a_6, .int), (a_8, .boolean), (a_10, .int), (a_12, .int), (a_14, .int), (a_16, .int)]) [0, 1, 2, 3, 4, 5, 6] rfl
  refine W.widen (k := 8) (n := 129) (Nat.le_of_ble_eq_true rfl) (Nat.le_of_ble_eq_true rfl) ?_
  exact W.vret hx hb hr (fun t ht hW => ⟨⟨((fun k => ([q_1, q_5, q_7, q_9, q_11, q_13, q_15, (u_3.1 0), (u_3.1 1), a_6, a_8, a_10, a_12, a_14, a_16] : List Nat).getD k 0), (fun k => ([] : List (Nat → Int32)).getD k (fun _ => 0))), rfl, trivial, by rw [ht]; exact hP9, va_K.moved hW.alike hK9, hD9⟩, hS.F ht⟩) hS.2.2 dX3_init_73
set_option maxHeartbeats 4000000 in
set_option maxRecDepth 100000 in
theorem zc16_X0_init (l : Launch) (dC : Nat → ClassId) (dI : Nat → Nat → Nat) (h0 : Nat) (sz : Nat) : Met l yX0_init wsX0_init ({ frames := 2, cells := 7, slots := 76, locals := 40 }) (va_Pc [.ref h0] (fun U => va_Nw (.methodLinkNest RX0 11 yX6_init RX11) U ∧ va_Nw (.methodLinkNest RX0 20 yX7_init RX11) U ∧ U.heap.size = sz ∧ va_P (dC, dI) vwCl [(h0, .inr (0, [.null, .null, .null, .int 0, .int 0]))] U.heap ∧ va_K (dC, dI) vwCl [] U ∧ va_D (fun _ => True) [(h0, .inr (0, [.null, .null, .null, .int 0, .int 0]))])) (va_Qv (fun (u : zU) => True) (fun u t => va_P (dC, dI) vwCl [zV0 h0 (u.1 0) (u.1 1) (u.1 2) (-1) (-1), zV6 (u.1 0) (u.1 3) (u.1 4) (u.1 5), zVl (u.1 3) (u.1 6) 14 (fun _ => 0), zVl (u.1 4) (u.1 7) 14 (fun _ => 0), zVi (u.1 5) (u.1 8) 14 (fun _ => 0), zV7 (u.1 1) (u.1 9) 0 0, zVl (u.1 9) (u.1 10) 14 (fun _ => 0), zVi (u.1 2) (u.1 11) 14 (fun _ => 0)] t.heap ∧ va_K (dC, dI) vwCl [((u.1 6), .long), ((u.1 7), .long), ((u.1 8), .boolean), ((u.1 10), .long), ((u.1 11), .int)] t ∧ va_D (va_A [(h0, .inr (0, [.null, .null, .null, .int 0, .int 0]))] sz) [zV0 h0 (u.1 0) (u.1 1) (u.1 2) (-1) (-1), zV6 (u.1 0) (u.1 3) (u.1 4) (u.1 5), zVl (u.1 3) (u.1 6) 14 (fun _ => 0), zVl (u.1 4) (u.1 7) 14 (fun _ => 0), zVi (u.1 5) (u.1 8) 14 (fun _ => 0), zV7 (u.1 1) (u.1 9) 0 0, zVl (u.1 9) (u.1 10) 14 (fun _ => 0), zVi (u.1 2) (u.1 11) 14 (fun _ => 0)]) (va_A [(h0, .inr (0, [.null, .null, .null, .int 0, .int 0]))] sz)) 7 76 (va_A [(h0, .inr (0, [.null, .null, .null, .int 0, .int 0]))] sz) := by
  refine Met.ofW (cc := cX0_init) (maxL := 1) (ret := none) (by decide +kernel) rfl ?_
  intro p e s m args below meth c s₁ B hml hv
  obtain ⟨rfl, hn0, hn1, hsz, hP, hK, hD0⟩ := hv
  have hx := B.exec
  have hb := B.bytes
  have hr := B.returns
  have hts := atoms_spec (ws := wsX0_init) B.pre
  have hown : s.vm.findClass RX0 = some m.cls := (findClass_of_methodNamed B.named :)
  have hlocks := B.notSynchronized
  have hin : meth.name = "<init>" := (name_of_methodNamed B.named B.method).1
  subst hsz
  replace hD := hD0.self (sz := s.heap.size)
  generalize hAe : va_A [(h0, .inr (0, [.null, .null, .null, .int 0, .int 0]))] s.heap.size = A at hD ⊢
  have hA : ∀ q : Nat, s.heap.size ≤ q → A q := fun q h => by rw [← hAe]; exact Or.inr h
  have hS : va_S A s.heap s.heap [] := va_S.rf
  replace hP : va_P (dC, dI) vwCl [(h0, .inr (0, [.null, .null, .null, .int 0, .int 0]))] s.heap := hP
  have hl := lv_entry ([.ref h0]) (n := 1) (Nat.le_of_ble_eq_true rfl)
  rw [lg_entry_eq]
  generalize (lg_sl ([.ref h0]) ++ List.replicate (1 - (lg_sl ([.ref h0])).length) Slot.unset).toArray = ls at hl ⊢
  have hl : lv_has ls 1 [(0, .ref h0)] := hl
  refine lv_aload_n hx hb dX0_init_0 rfl (lv_at hl 0 rfl) ?_
  refine W.objInit hx hb hown (hts (.methodLink RX0 3 objectInit) zw_X0_init_181) (hts (.instanceMethod objectInit) zw_X0_init_182) (hts (.code objectInit ⟨#[0xb1]⟩ 1 none) zw_X0_init_183) rfl (by rw [hml]; exact hl.1) rfl dX0_init_1 (Nat.le_of_ble_eq_true rfl) (Nat.le_of_ble_eq_true rfl) ?_
  refine W.eq (g2 := F0 m 4 ls []) rfl ?_
  refine lv_aload_n hx hb dX0_init_4 rfl (lv_at hl 0 rfl) ?_
  refine va_new (ci := 6) (fs := [.null, .null, .null]) (C := RX6) (T := TX6) (N := 3) hx hb hts zn_X0_init_X6 tyX6 tyX6_ok hown (hts (.classLink RX0 9 RX6) zw_X0_init_185) (hts (.instantiable RX6 3) zw_X0_init_186) (hts (.initialized RX6) zw_X0_init_187) hK hP hD hS hA rfl zd_X6 (Nat.le_of_ble_eq_true rfl) (Nat.le_of_ble_eq_true rfl) dX0_init_5 (fun q_1 H hP hD hS => ?_)
  replace hP : va_P (dC, dI) vwCl [(h0, .inr (0, [.null, .null, .null, .int 0, .int 0])), (q_1, .inr (6, [.null, .null, .null]))] H := hP
  replace hD := zDW hD hP rfl
  refine W.widen (k := 1) (n := 3) (Nat.le_of_ble_eq_true rfl) (Nat.le_of_ble_eq_true rfl) ?_
  refine lv_dup hx hb dX0_init_8 rfl ?_
  replace hPc := hP.sub (ws' := [(q_1, .inr (6, [.null, .null, .null]))]) [1] rfl
  replace hDc := hD.sub (ws' := [(q_1, .inr (6, [.null, .null, .null]))]) [1] (by decide) rfl
  replace hKc := hK.sub (tys' := []) [] rfl
  replace hFc := va_free (wc := [(q_1, .inr (6, [.null, .null, .null]))]) hD hS hA [1] rfl
  refine va_callv (va_runIN (As := []) (rest := [.ref q_1, .ref h0]) ⟨hx, hb, hml, hown, hts⟩ (zc11_X6_init l dC dI q_1 H.size) ⟨va_cnB (host := RX11) 0 hts gX0_init_X6_init_n11 rfl rfl rfl hn0 (hts (.initialized RX6) zw_X0_init_187) (by decide +kernel) ⟨Nat.le_of_ble_eq_true rfl, Nat.le_of_ble_eq_true rfl⟩, rfl, (hts (.instanceMethod yX6_init) zw_X0_init_188)⟩ ⟨fun a U g mk q => by obtain ⟨q0, q1, qP, qK, qD⟩ := q; exact ⟨q0, q1, qP, va_K.moved (u := U) (U := U.calling g mk a) (Vm.Alike.refl U.vm) qK, qD⟩, fun U hU hW => ⟨rfl, by rw [hU], by rw [hU]; exact hPc, va_K.moved hW.alike hKc, hDc.weaken (fun _ _ _ _ => trivial)⟩⟩ rfl rfl hl.1 rfl (lv_room (Nat.le_of_ble_eq_true rfl)) dX0_init_9 ⟨Nat.le_of_ble_eq_true rfl, Nat.le_of_ble_eq_true rfl⟩) hS (fun q _ h => hFc q h) hFc (fun u_3 t H1 locs ht hvm hw_4 hB hz1 hk1 hS => ?_)
  obtain ⟨hP1, hK1, hD1⟩ := hB
  rw [ht] at hP1
  replace hK1 := va_K.moved hvm.symm hK1
  obtain ⟨hP, hD⟩ := va_join (wr := [(h0, .inr (0, [.null, .null, .null, .int 0, .int 0]))]) (w1 := [zV6 q_1 (u_3.1 0) (u_3.1 1) (u_3.1 2), zVl (u_3.1 0) (u_3.1 3) 14 (fun _ => 0), zVl (u_3.1 1) (u_3.1 4) 14 (fun _ => 0), zVi (u_3.1 2) (u_3.1 5) 14 (fun _ => 0)]) hP hD [1] [0] rfl rfl (by decide) (by decide) hk1 hFc hP1 hD1
  replace hK := hK.app hK1
  generalize H1 = H at hP hS ⊢
  replace hP : va_P (dC, dI) vwCl [(h0, .inr (0, [.null, .null, .null, .int 0, .int 0])), zV6 q_1 (u_3.1 0) (u_3.1 1) (u_3.1 2), zVl (u_3.1 0) (u_3.1 3) 14 (fun _ => 0), zVl (u_3.1 1) (u_3.1 4) 14 (fun _ => 0), zVi (u_3.1 2) (u_3.1 5) 14 (fun _ => 0)] H := hP
  replace hD := zDW hD hP rfl
  replace hK : va_K (dC, dI) vwCl [((u_3.1 3), .long), ((u_3.1 4), .long), ((u_3.1 5), .boolean)] s := hK
  refine W.widen (k := 4) (n := 45) (Nat.le_of_ble_eq_true rfl) (Nat.le_of_ble_eq_true rfl) ?_
  refine va_putF (D := (dC, dI)) (ci := 0) (v := .ref q_1) (ty := .object "ShortEnough$Ranges") (C := RX0) (T := TX0) (N := 5) hx hb hts zn_X0_init_X0 tyX0 tyX0_ok nmX0 hown hK hP hD hS 0 rfl rfl 0 (by decide) (hts (.fieldLink RX0 12 "ShortEnough$CertificateReader" "said" "LShortEnough$Ranges;") zw_X0_init_190) (fun _ h9 => h9) rfl hin rfl (by decide +kernel) rfl rfl (Nat.le_of_ble_eq_true rfl) dX0_init_12 ?_
  clear hP hD hS
  intro H locs hP hD hS
  replace hP : va_P (dC, dI) vwCl [(h0, .inr (0, [.ref q_1, .null, .null, .int 0, .int 0])), zV6 q_1 (u_3.1 0) (u_3.1 1) (u_3.1 2), zVl (u_3.1 0) (u_3.1 3) 14 (fun _ => 0), zVl (u_3.1 1) (u_3.1 4) 14 (fun _ => 0), zVi (u_3.1 2) (u_3.1 5) 14 (fun _ => 0)] H := hP
  replace hD := zDW hD hP rfl
  refine lv_aload_n hx hb dX0_init_15 rfl (lv_at hl 0 rfl) ?_
  refine va_new (ci := 7) (fs := [.null, .int 0, .int 0]) (C := RX7) (T := TX7) (N := 3) hx hb hts zn_X0_init_X7 tyX7 tyX7_ok hown (hts (.classLink RX0 18 RX7) zw_X0_init_192) (hts (.instantiable RX7 3) zw_X0_init_193) (hts (.initialized RX7) zw_X0_init_194) hK hP hD hS hA rfl zd_X7 (Nat.le_of_ble_eq_true rfl) (Nat.le_of_ble_eq_true rfl) dX0_init_16 (fun q_5 H hP hD hS => ?_)
  replace hP : va_P (dC, dI) vwCl [(h0, .inr (0, [.ref q_1, .null, .null, .int 0, .int 0])), zV6 q_1 (u_3.1 0) (u_3.1 1) (u_3.1 2), zVl (u_3.1 0) (u_3.1 3) 14 (fun _ => 0), zVl (u_3.1 1) (u_3.1 4) 14 (fun _ => 0), zVi (u_3.1 2) (u_3.1 5) 14 (fun _ => 0), (q_5, .inr (7, [.null, .int 0, .int 0]))] H := hP
  replace hD := zDW hD hP rfl
  refine W.widen (k := 5) (n := 48) (Nat.le_of_ble_eq_true rfl) (Nat.le_of_ble_eq_true rfl) ?_
  refine lv_dup hx hb dX0_init_19 rfl ?_
  replace hPc := hP.sub (ws' := [(q_5, .inr (7, [.null, .int 0, .int 0]))]) [5] rfl
  replace hDc := hD.sub (ws' := [(q_5, .inr (7, [.null, .int 0, .int 0]))]) [5] (by decide) rfl
  replace hKc := hK.sub (tys' := []) [] rfl
  replace hFc := va_free (wc := [(q_5, .inr (7, [.null, .int 0, .int 0]))]) hD hS hA [5] rfl
  refine va_callv (va_runIN (As := []) (rest := [.ref q_5, .ref h0]) ⟨hx, hb, hml, hown, hts⟩ (zc13_X7_init l dC dI q_5 H.size) ⟨va_cnB (host := RX11) 0 hts gX0_init_X7_init_n20 rfl rfl rfl hn1 (hts (.initialized RX7) zw_X0_init_194) (by decide +kernel) ⟨Nat.le_of_ble_eq_true rfl, Nat.le_of_ble_eq_true rfl⟩, rfl, (hts (.instanceMethod yX7_init) zw_X0_init_195)⟩ ⟨fun a U g mk q => by obtain ⟨q0, q1, qP, qK, qD⟩ := q; exact ⟨q0, q1, qP, va_K.moved (u := U) (U := U.calling g mk a) (Vm.Alike.refl U.vm) qK, qD⟩, fun U hU hW => ⟨rfl, by rw [hU], by rw [hU]; exact hPc, va_K.moved hW.alike hKc, hDc.weaken (fun _ _ _ _ => trivial)⟩⟩ rfl rfl hl.1 rfl (lv_room (Nat.le_of_ble_eq_true rfl)) dX0_init_20 ⟨Nat.le_of_ble_eq_true rfl, Nat.le_of_ble_eq_true rfl⟩) hS (fun q _ h => hFc q h) hFc (fun u_7 t H1 locs ht hvm hw_8 hB hz1 hk1 hS => ?_)
  obtain ⟨hP1, hK1, hD1⟩ := hB
  rw [ht] at hP1
  replace hK1 := va_K.moved hvm.symm hK1
  obtain ⟨hP, hD⟩ := va_join (wr := [(h0, .inr (0, [.ref q_1, .null, .null, .int 0, .int 0])), zV6 q_1 (u_3.1 0) (u_3.1 1) (u_3.1 2), zVl (u_3.1 0) (u_3.1 3) 14 (fun _ => 0), zVl (u_3.1 1) (u_3.1 4) 14 (fun _ => 0), zVi (u_3.1 2) (u_3.1 5) 14 (fun _ => 0)]) (w1 := [zV7 q_5 (u_7.1 0) 0 0, zVl (u_7.1 0) (u_7.1 1) 14 (fun _ => 0)]) hP hD [5] [0, 1, 2, 3, 4] rfl rfl (by decide) (by decide) hk1 hFc hP1 hD1
  replace hK := hK.app hK1
  generalize H1 = H at hP hS ⊢
  replace hP : va_P (dC, dI) vwCl [(h0, .inr (0, [.ref q_1, .null, .null, .int 0, .int 0])), zV6 q_1 (u_3.1 0) (u_3.1 1) (u_3.1 2), zVl (u_3.1 0) (u_3.1 3) 14 (fun _ => 0), zVl (u_3.1 1) (u_3.1 4) 14 (fun _ => 0), zVi (u_3.1 2) (u_3.1 5) 14 (fun _ => 0), zV7 q_5 (u_7.1 0) 0 0, zVl (u_7.1 0) (u_7.1 1) 14 (fun _ => 0)] H := hP
  replace hD := zDW hD hP rfl
  replace hK : va_K (dC, dI) vwCl [((u_3.1 3), .long), ((u_3.1 4), .long), ((u_3.1 5), .boolean), ((u_7.1 1), .long)] s := hK
  refine W.widen (k := 6) (n := 62) (Nat.le_of_ble_eq_true rfl) (Nat.le_of_ble_eq_true rfl) ?_
  refine va_putF (D := (dC, dI)) (ci := 0) (v := .ref q_5) (ty := .object "ShortEnough$Reckoning") (C := RX0) (T := TX0) (N := 5) hx hb hts zn_X0_init_X0 tyX0 tyX0_ok nmX0 hown hK hP hD hS 0 rfl rfl 1 (by decide) (hts (.fieldLink RX0 21 "ShortEnough$CertificateReader" "saidErrors" "LShortEnough$Reckoning;") zw_X0_init_196) (fun _ h9 => h9) rfl hin rfl (by decide +kernel) rfl rfl (Nat.le_of_ble_eq_true rfl) dX0_init_23 ?_
  clear hP hD hS
  intro H locs hP hD hS
  replace hP : va_P (dC, dI) vwCl [(h0, .inr (0, [.ref q_1, .ref q_5, .null, .int 0, .int 0])), zV6 q_1 (u_3.1 0) (u_3.1 1) (u_3.1 2), zVl (u_3.1 0) (u_3.1 3) 14 (fun _ => 0), zVl (u_3.1 1) (u_3.1 4) 14 (fun _ => 0), zVi (u_3.1 2) (u_3.1 5) 14 (fun _ => 0), zV7 q_5 (u_7.1 0) 0 0, zVl (u_7.1 0) (u_7.1 1) 14 (fun _ => 0)] H := hP
  replace hD := zDW hD hP rfl
  refine lv_aload_n hx hb dX0_init_26 rfl (lv_at hl 0 rfl) ?_
  refine lv_bipush (v := 14) hx hb dX0_init_27 zcb_14 ?_
  refine va_newa (atype := .int) (ty := .int) (N' := 14) (a0 := (14, .inl (fun _ => 0))) hx hb (hts (.arrayClass .int) zw_X0_init_197) rfl hK hP hD hS hA (fun _ => rfl) (by decide +kernel) (by decide +kernel) (Nat.le_of_ble_eq_true rfl) (Nat.le_of_ble_eq_true rfl) (Nat.le_of_ble_eq_true rfl) dX0_init_29 (fun q_9 a_10 H hK hP hD hS => ?_)
  replace hP : va_P (dC, dI) vwCl [(h0, .inr (0, [.ref q_1, .ref q_5, .null, .int 0, .int 0])), zV6 q_1 (u_3.1 0) (u_3.1 1) (u_3.1 2), zVl (u_3.1 0) (u_3.1 3) 14 (fun _ => 0), zVl (u_3.1 1) (u_3.1 4) 14 (fun _ => 0), zVi (u_3.1 2) (u_3.1 5) 14 (fun _ => 0), zV7 q_5 (u_7.1 0) 0 0, zVl (u_7.1 0) (u_7.1 1) 14 (fun _ => 0), zVi q_9 a_10 14 (fun _ => 0)] H := hP
  replace hD := zDW hD hP rfl
  replace hK : va_K (dC, dI) vwCl [((u_3.1 3), .long), ((u_3.1 4), .long), ((u_3.1 5), .boolean), ((u_7.1 1), .long), (a_10, .int)] s := hK
  refine W.widen (k := 7) (n := 76) (Nat.le_of_ble_eq_true rfl) (Nat.le_of_ble_eq_true rfl) ?_
  refine va_putF (D := (dC, dI)) (ci := 0) (v := .ref q_9) (ty := .array .int) (C := RX0) (T := TX0) (N := 5) hx hb hts zn_X0_init_X0 tyX0 tyX0_ok nmX0 hown hK hP hD hS 0 rfl rfl 2 (by decide) (hts (.fieldLink RX0 25 "ShortEnough$CertificateReader" "choice" "[I") zw_X0_init_198) (fun _ h9 => h9) rfl hin rfl (by decide +kernel) rfl rfl (Nat.le_of_ble_eq_true rfl) dX0_init_31 ?_
  clear hP hD hS
  intro H locs hP hD hS
  replace hP : va_P (dC, dI) vwCl [zV0 h0 q_1 q_5 q_9 0 0, zV6 q_1 (u_3.1 0) (u_3.1 1) (u_3.1 2), zVl (u_3.1 0) (u_3.1 3) 14 (fun _ => 0), zVl (u_3.1 1) (u_3.1 4) 14 (fun _ => 0), zVi (u_3.1 2) (u_3.1 5) 14 (fun _ => 0), zV7 q_5 (u_7.1 0) 0 0, zVl (u_7.1 0) (u_7.1 1) 14 (fun _ => 0), zVi q_9 a_10 14 (fun _ => 0)] H := hP
  replace hD := zDW hD hP rfl
  refine lv_aload_n hx hb dX0_init_34 rfl (lv_at hl 0 rfl) ?_
  refine lv_iconst (v := (-1)) hx hb dX0_init_35 zci_m1 ?_
  refine va_put (D := (dC, dI)) (ci := 0) (v := .int (-1)) (ty := .int) (C := RX0) (T := TX0) (N := 5) hx hb hts zn_X0_init_X0 tyX0 tyX0_ok nmX0 hown hK hP hD hS 0 rfl rfl 3 (by decide) (hts (.fieldLink RX0 29 "ShortEnough$CertificateReader" "breaksAt" "I") zw_X0_init_199) (fun _ h9 => h9) rfl (by decide +kernel) rfl rfl (Nat.le_of_ble_eq_true rfl) dX0_init_36 ?_
  clear hP hD hS
  intro H locs hP hD hS
  replace hP : va_P (dC, dI) vwCl [zV0 h0 q_1 q_5 q_9 (-1) 0, zV6 q_1 (u_3.1 0) (u_3.1 1) (u_3.1 2), zVl (u_3.1 0) (u_3.1 3) 14 (fun _ => 0), zVl (u_3.1 1) (u_3.1 4) 14 (fun _ => 0), zVi (u_3.1 2) (u_3.1 5) 14 (fun _ => 0), zV7 q_5 (u_7.1 0) 0 0, zVl (u_7.1 0) (u_7.1 1) 14 (fun _ => 0), zVi q_9 a_10 14 (fun _ => 0)] H := hP
  replace hD := zDW hD hP rfl
  refine lv_aload_n hx hb dX0_init_39 rfl (lv_at hl 0 rfl) ?_
  refine lv_iconst (v := (-1)) hx hb dX0_init_40 zci_m1 ?_
  refine va_put (D := (dC, dI)) (ci := 0) (v := .int (-1)) (ty := .int) (C := RX0) (T := TX0) (N := 5) hx hb hts zn_X0_init_X0 tyX0 tyX0_ok nmX0 hown hK hP hD hS 0 rfl rfl 4 (by decide) (hts (.fieldLink RX0 33 "ShortEnough$CertificateReader" "reason" "I") zw_X0_init_200) (fun _ h9 => h9) rfl (by decide +kernel) rfl rfl (Nat.le_of_ble_eq_true rfl) dX0_init_41 ?_
  clear hP hD hS
  intro H locs hP hD hS
  replace hP : va_P (dC, dI) vwCl [zV0 h0 q_1 q_5 q_9 (-1) (-1), zV6 q_1 (u_3.1 0) (u_3.1 1) (u_3.1 2), zVl (u_3.1 0) (u_3.1 3) 14 (fun _ => 0), zVl (u_3.1 1) (u_3.1 4) 14 (fun _ => 0), zVi (u_3.1 2) (u_3.1 5) 14 (fun _ => 0), zV7 q_5 (u_7.1 0) 0 0, zVl (u_7.1 0) (u_7.1 1) 14 (fun _ => 0), zVi q_9 a_10 14 (fun _ => 0)] H := hP
  replace hD := zDW hD hP rfl
  have hP9 := hP.sub (ws' := [zV0 h0 q_1 q_5 q_9 (-1) (-1), zV6 q_1 (u_3.1 0) (u_3.1 1) (u_3.1 2), zVl (u_3.1 0) (u_3.1 3) 14 (fun _ => 0), zVl (u_3.1 1) (u_3.1 4) 14 (fun _ => 0), zVi (u_3.1 2) (u_3.1 5) 14 (fun _ => 0), zV7 q_5 (u_7.1 0) 0 0, zVl (u_7.1 0) (u_7.1 1) 14 (fun _ => 0), zVi q_9 a_10 14 (fun _ => 0)]) [0, 1, 2, 3, 4, 5, 6, 7] rfl
  have hD9 := hD.sub (ws' := [zV0 h0 q_1 q_5 q_9 (-1) (-1), zV6 q_1 (u_3.1 0) (u_3.1 1) (u_3.1 2), zVl (u_3.1 0) (u_3.1 3) 14 (fun _ => 0), zVl (u_3.1 1) (u_3.1 4) 14 (fun _ => 0), zVi (u_3.1 2) (u_3.1 5) 14 (fun _ => 0), zV7 q_5 (u_7.1 0) 0 0, zVl (u_7.1 0) (u_7.1 1) 14 (fun _ => 0), zVi q_9 a_10 14 (fun _ => 0)]) [0, 1, 2, 3, 4, 5, 6, 7] (by decide) rfl
  have hK9 := hK.sub (tys' := [((u_3.1 3), .long), ((u_3.1 4), .long), ((u_3.1 5), .boolean), ((u_7.1 1), .long), (a_10, .int)]) [0, 1, 2, 3, 4] rfl
  refine W.widen (k := 7) (n := 76) (Nat.le_of_ble_eq_true rfl) (Nat.le_of_ble_eq_true rfl) ?_
  exact W.vret hx hb hr (fun t ht hW => ⟨⟨((fun k => ([q_1, q_5, q_9, (u_3.1 0), (u_3.1 1), (u_3.1 2), (u_3.1 3), (u_3.1 4), (u_3.1 5), (u_7.1 0), (u_7.1 1), a_10] : List Nat).getD k 0), (fun k => ([] : List (Nat → Int32)).getD k (fun _ => 0))), rfl, trivial, by rw [ht]; exact hP9, va_K.moved hW.alike hK9, hD9⟩, hS.F ht⟩) hS.2.2 dX0_init_44
set_option maxHeartbeats 4000000 in
set_option maxRecDepth 100000 in
theorem zc17_X8_init (l : Launch) (dC : Nat → ClassId) (dI : Nat → Nat → Nat) (h0 : Nat) (sz : Nat) : Met l yX8_init wsX8_init ({ frames := 1, cells := 2, slots := 28, locals := 20 }) (va_Pc [.ref h0] (fun U => U.heap.size = sz ∧ va_P (dC, dI) vwCl [(h0, .inr (8, [.null, .null]))] U.heap ∧ va_K (dC, dI) vwCl [] U ∧ va_D (fun _ => True) [(h0, .inr (8, [.null, .null]))])) (va_Qv (fun (u : zU) => True) (fun u t => va_P (dC, dI) vwCl [zV8 h0 (u.1 0) (u.1 1), zVl (u.1 0) (u.1 2) 14 (fun _ => 0), zVl (u.1 1) (u.1 3) 14 (fun _ => 0)] t.heap ∧ va_K (dC, dI) vwCl [((u.1 2), .long), ((u.1 3), .long)] t ∧ va_D (va_A [(h0, .inr (8, [.null, .null]))] sz) [zV8 h0 (u.1 0) (u.1 1), zVl (u.1 0) (u.1 2) 14 (fun _ => 0), zVl (u.1 1) (u.1 3) 14 (fun _ => 0)]) (va_A [(h0, .inr (8, [.null, .null]))] sz)) 2 28 (va_A [(h0, .inr (8, [.null, .null]))] sz) := by
  refine Met.ofW (cc := cX8_init) (maxL := 1) (ret := none) (by decide +kernel) rfl ?_
  intro p e s m args below meth c s₁ B hml hv
  obtain ⟨rfl, hsz, hP, hK, hD0⟩ := hv
  have hx := B.exec
  have hb := B.bytes
  have hr := B.returns
  have hts := atoms_spec (ws := wsX8_init) B.pre
  have hown : s.vm.findClass RX8 = some m.cls := (findClass_of_methodNamed B.named :)
  have hlocks := B.notSynchronized
  have hin : meth.name = "<init>" := (name_of_methodNamed B.named B.method).1
  subst hsz
  replace hD := hD0.self (sz := s.heap.size)
  generalize hAe : va_A [(h0, .inr (8, [.null, .null]))] s.heap.size = A at hD ⊢
  have hA : ∀ q : Nat, s.heap.size ≤ q → A q := fun q h => by rw [← hAe]; exact Or.inr h
  have hS : va_S A s.heap s.heap [] := va_S.rf
  replace hP : va_P (dC, dI) vwCl [(h0, .inr (8, [.null, .null]))] s.heap := hP
  have hl := lv_entry ([.ref h0]) (n := 1) (Nat.le_of_ble_eq_true rfl)
  rw [lg_entry_eq]
  generalize (lg_sl ([.ref h0]) ++ List.replicate (1 - (lg_sl ([.ref h0])).length) Slot.unset).toArray = ls at hl ⊢
  have hl : lv_has ls 1 [(0, .ref h0)] := hl
  refine lv_aload_n hx hb dX8_init_0 rfl (lv_at hl 0 rfl) ?_
  refine W.objInit hx hb hown (hts (.methodLink RX8 3 objectInit) zw_X8_init_207) (hts (.instanceMethod objectInit) zw_X8_init_208) (hts (.code objectInit ⟨#[0xb1]⟩ 1 none) zw_X8_init_209) rfl (by rw [hml]; exact hl.1) rfl dX8_init_1 (Nat.le_of_ble_eq_true rfl) (Nat.le_of_ble_eq_true rfl) ?_
  refine W.eq (g2 := F0 m 4 ls []) rfl ?_
  refine lv_aload_n hx hb dX8_init_4 rfl (lv_at hl 0 rfl) ?_
  refine lv_bipush (v := 14) hx hb dX8_init_5 zcb_14 ?_
  refine va_newa (atype := .long) (ty := .long) (N' := 14) (a0 := (14, .inr (.inl (fun _ => 0)))) hx hb (hts (.arrayClass .long) zw_X8_init_210) rfl hK hP hD hS hA (fun _ => rfl) (by decide +kernel) (by decide +kernel) (Nat.le_of_ble_eq_true rfl) (Nat.le_of_ble_eq_true rfl) (Nat.le_of_ble_eq_true rfl) dX8_init_7 (fun q_1 a_2 H hK hP hD hS => ?_)
  replace hP : va_P (dC, dI) vwCl [(h0, .inr (8, [.null, .null])), zVl q_1 a_2 14 (fun _ => 0)] H := hP
  replace hD := zDW hD hP rfl
  replace hK : va_K (dC, dI) vwCl [(a_2, .long)] s := hK
  refine W.widen (k := 1) (n := 14) (Nat.le_of_ble_eq_true rfl) (Nat.le_of_ble_eq_true rfl) ?_
  refine va_putF (D := (dC, dI)) (ci := 8) (v := .ref q_1) (ty := .array .long) (C := RX8) (T := TX8) (N := 2) hx hb hts zn_X8_init_X8 tyX8 tyX8_ok nmX8 hown hK hP hD hS 0 rfl rfl 0 (by decide) (hts (.fieldLink RX8 9 "ShortEnough$Sampler" "exact" "[J") zw_X8_init_212) (fun _ h9 => h9) rfl hin rfl (by decide +kernel) rfl rfl (Nat.le_of_ble_eq_true rfl) dX8_init_9 ?_
  clear hP hD hS
  intro H locs hP hD hS
  replace hP : va_P (dC, dI) vwCl [(h0, .inr (8, [.ref q_1, .null])), zVl q_1 a_2 14 (fun _ => 0)] H := hP
  replace hD := zDW hD hP rfl
  refine lv_aload_n hx hb dX8_init_12 rfl (lv_at hl 0 rfl) ?_
  refine lv_bipush (v := 14) hx hb dX8_init_13 zcb_14 ?_
  refine va_newa (atype := .long) (ty := .long) (N' := 14) (a0 := (14, .inr (.inl (fun _ => 0)))) hx hb (hts (.arrayClass .long) zw_X8_init_210) rfl hK hP hD hS hA (fun _ => rfl) (by decide +kernel) (by decide +kernel) (Nat.le_of_ble_eq_true rfl) (Nat.le_of_ble_eq_true rfl) (Nat.le_of_ble_eq_true rfl) dX8_init_15 (fun q_3 a_4 H hK hP hD hS => ?_)
  replace hP : va_P (dC, dI) vwCl [(h0, .inr (8, [.ref q_1, .null])), zVl q_1 a_2 14 (fun _ => 0), zVl q_3 a_4 14 (fun _ => 0)] H := hP
  replace hD := zDW hD hP rfl
  replace hK : va_K (dC, dI) vwCl [(a_2, .long), (a_4, .long)] s := hK
  refine W.widen (k := 2) (n := 28) (Nat.le_of_ble_eq_true rfl) (Nat.le_of_ble_eq_true rfl) ?_
  refine va_putF (D := (dC, dI)) (ci := 8) (v := .ref q_3) (ty := .array .long) (C := RX8) (T := TX8) (N := 2) hx hb hts zn_X8_init_X8 tyX8 tyX8_ok nmX8 hown hK hP hD hS 0 rfl rfl 1 (by decide) (hts (.fieldLink RX8 15 "ShortEnough$Sampler" "kept" "[J") zw_X8_init_213) (fun _ h9 => h9) rfl hin rfl (by decide +kernel) rfl rfl (Nat.le_of_ble_eq_true rfl) dX8_init_17 ?_
  clear hP hD hS
  intro H locs hP hD hS
  replace hP : va_P (dC, dI) vwCl [zV8 h0 q_1 q_3, zVl q_1 a_2 14 (fun _ => 0), zVl q_3 a_4 14 (fun _ => 0)] H := hP
  replace hD := zDW hD hP rfl
  have hP9 := hP.sub (ws' := [zV8 h0 q_1 q_3, zVl q_1 a_2 14 (fun _ => 0), zVl q_3 a_4 14 (fun _ => 0)]) [0, 1, 2] rfl
  have hD9 := hD.sub (ws' := [zV8 h0 q_1 q_3, zVl q_1 a_2 14 (fun _ => 0), zVl q_3 a_4 14 (fun _ => 0)]) [0, 1, 2] (by decide) rfl
  have hK9 := hK.sub (tys' := [(a_2, .long), (a_4, .long)]) [0, 1] rfl
  refine W.widen (k := 2) (n := 28) (Nat.le_of_ble_eq_true rfl) (Nat.le_of_ble_eq_true rfl) ?_
  exact W.vret hx hb hr (fun t ht hW => ⟨⟨((fun k => ([q_1, q_3, a_2, a_4] : List Nat).getD k 0), (fun k => ([] : List (Nat → Int32)).getD k (fun _ => 0))), rfl, trivial, by rw [ht]; exact hP9, va_K.moved hW.alike hK9, hD9⟩, hS.F ht⟩) hS.2.2 dX8_init_20
