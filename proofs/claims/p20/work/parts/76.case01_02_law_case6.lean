set_option maxHeartbeats 4000000 in
set_option maxRecDepth 100000 in
theorem law_case6 {p : Program} {l : Launch} {e : Env} {s : State} {m : MethodId} {below : List Frame} {meth : Method} {c : Code} {dC : Nat → ClassId} {dI : Nat → Nat → Nat} {b L : Nat} {xs : Nat → Int32} {A : Nat → Prop} (hA : ∀ q : Nat, s.heap.size ≤ q → A q) (hA2 : ∀ q : Nat, A q → s.heap.size ≤ q) (hbA : ¬ A b) (C0 : lw_At p s m meth c b L xs) (hL : L ≤ 3072) (t : Nat) (i : Int32) (hi : i.toInt = 6 * (t : Int) ∧ 6 * t + 6 ≤ L ∧ L ≤ 3072) (qx qm : Nat) (a0 kM : Nat → Nat) (R K : Nat → Nat) (I : Nat → Int32) (F : Nat → Nat → Int32) (J : Nat → Nat → Int64) (N : Nat → Nat) (b0 : Nat → Int32) (c0 : Nat → Int64) (fM : Nat → Nat → Int32) (jM : Nat → Nat → Int64) (cl sl : Nat) (H : Heap) (locs : List Loc) (ls : Array Slot) (hnext : ∀ (R K : Nat → Nat) (I : Nat → Int32) (F : Nat → Nat → Int32) (J : Nat → Nat → Int64) (N : Nat → Nat) (b0 : Nat → Int32) (c0 : Nat → Int64) (fM : Nat → Nat → Int32) (jM : Nat → Nat → Int64) (cl sl : Nat) (H : Heap) (locs : List Loc) (ls : Array Slot), zInvX I F N → zInvM I F J N b0 c0 fM jM → zBud (t + 1) (I 29) cl sl → va_K (dC, dI) vwCl (zTyX K ++ zTyM kM) s → va_P (dC, dI) vwCl (zWX qx R K I F J N ++ zWM qm a0 kM b0 c0 fM jM) H → va_D A (zWX qx R K I F J N ++ zWM qm a0 kM b0 c0 fM jM) → va_S A s.heap H locs → lv_has ls 4 [(3, .int i), (2, .ref qm), (1, .ref qx), (0, .ref b)] → W p l e room_1 s m #[Value.ref b] below meth c H locs cl sl (lw_Z below #[Value.ref b] s) (F0 m 1169 ls [])) (hIX : zInvX I F N) (hIM : zInvM I F J N b0 c0 fM jM) (hBud : zBud t (I 29) cl sl) (hK : va_K (dC, dI) vwCl (zTyX K ++ zTyM kM) s) (hP : va_P (dC, dI) vwCl (zWX qx R K I F J N ++ zWM qm a0 kM b0 c0 fM jM) H) (hD : va_D A (zWX qx R K I F J N ++ zWM qm a0 kM b0 c0 fM jM)) (hS : va_S A s.heap H locs) (hl : lv_has ls 4 [(3, .int i), (2, .ref qm), (1, .ref qx), (0, .ref b)]) : W p l e room_1 s m #[Value.ref b] below meth c H locs cl sl (lw_Z below #[Value.ref b] s) (F0 m 396 ls []) := by
  obtain ⟨hx, hb, hr, hml, hown, hts0, hX, hbl, hlocks, hgv⟩ := id C0
  have hts : ∀ w ∈ wsL_law, w.before #[Value.ref b] s = true := fun w h => hts0 w (wsL_law_in w h)
  obtain ⟨x0, x1, x2, x3, x4, x5, x6, x7, x8, x9, x10, x11, x12, x13, x14, x15, x16, x17, x18, x19, x20, x21, x22, x23, x24, x25, x26, x27, x28, x29, x30, x31, x32, x33, x34, x35, x36, x37, x38, x39, x40, x41, x42, x43, x44, x45, x46, x47, x48, x49, x50, x51, x52, x53, x54, x55⟩ := hIX
  obtain ⟨m0, m1, m2, m3, m4, m5, m6, m7, m8, m9, m10, m11, m12, m13, m14, m15, m16, m17, m18, m19, m20, m21, m22, m23, m24, m25, m26, m27, m28, m29, m30, m31, m32, m33, m34, m35, m36⟩ := hIM
  refine lv_aload_n hx hb dL_law_396 rfl (lv_at hl 2 rfl) ?_
  refine lv_aload_n hx hb dL_law_397 rfl (lv_at hl 3 rfl) ?_
  refine lv_iload_n hx hb dL_law_398 rfl (lv_at hl 0 rfl) ?_
  refine lv_iconst (v := 1) hx hb dL_law_399 zci_1 ?_
  refine lv_iadd hx hb dL_law_400 ?_
  refine va_sld hx hb hX hbl hbA hS (zvin (n := 1) hi 1 (by decide +kernel) (by decide)) dL_law_401 ?_
  refine lv_aload_n hx hb dL_law_402 rfl (lv_at hl 3 rfl) ?_
  refine lv_iload_n hx hb dL_law_403 rfl (lv_at hl 0 rfl) ?_
  refine lv_iconst (v := 2) hx hb dL_law_404 zci_2 ?_
  refine lv_iadd hx hb dL_law_405 ?_
  refine va_sld hx hb hX hbl hbA hS (zvin (n := 2) hi 2 (by decide +kernel) (by decide)) dL_law_406 ?_
  obtain ⟨o1, hq1, hp1⟩ := sf_X11_format (xs (i + 1).toNatClampNeg) (xs (i + 2).toNatClampNeg) (I 11) (F 4) (F 5) (F 6) (by first | with_reducible assumption | exact ⟨by with_reducible assumption, by with_reducible assumption⟩ | decide)
  refine zcVi (ci := 11) (rest := []) (pc' := 410) (ws' := (zWX qx R K I F J N ++ zWM qm a0 kM b0 c0 fM jM)) hP hK hD hS hA ⟨hx, hb, hml, hown, hts⟩ (zf_X11_format l dC dI qx (xs (i + 1).toNatClampNeg) (xs (i + 2).toNatClampNeg) (R 0) (I 0) (R 1) (R 2) (R 3) (R 4) (R 5) (R 6) (R 7) (R 8) (R 9) (R 10) (R 11) (R 12) (R 13) (I 1) (I 11) (R 17) (R 18) (R 19) (R 20) (I 12) (R 21) (R 22) (R 23) (K 4) (F 4) (K 5) (F 5) (K 6) (F 6) o1 hq1 H.size) (cwV 2 hts gL_law_X11_format rfl rfl rfl zhd_X11_format ⟨Nat.le_of_ble_eq_true rfl, Nat.le_of_ble_eq_true rfl⟩) [0, 6, 8, 9, 10] rfl (by decide) [4, 5, 6] rfl rfl rfl rfl hl.1 rfl (Nat.le_of_ble_eq_true rfl) dL_law_407 (zBud_room0 hBud) [some 0, none, none, none, none, none, some 1, none, some 2, some 3, some 4] (by decide +kernel) (by decide +kernel) rfl rfl rfl (fun H locs hP hD hS => ?_)
  refine lv_pop hx hb dL_law_410 rfl ?_
  refine lv_aload_n hx hb dL_law_411 rfl (lv_at hl 1 rfl) ?_
  refine lv_aload_n hx hb dL_law_412 rfl (lv_at hl 3 rfl) ?_
  refine lv_iload_n hx hb dL_law_413 rfl (lv_at hl 0 rfl) ?_
  refine lv_iconst (v := 1) hx hb dL_law_414 zci_1 ?_
  refine lv_iadd hx hb dL_law_415 ?_
  refine va_sld hx hb hX hbl hbA hS (zvin (n := 1) hi 1 (by decide +kernel) (by decide)) dL_law_416 ?_
  refine lv_aload_n hx hb dL_law_417 rfl (lv_at hl 3 rfl) ?_
  refine lv_iload_n hx hb dL_law_418 rfl (lv_at hl 0 rfl) ?_
  refine lv_iconst (v := 2) hx hb dL_law_419 zci_2 ?_
  refine lv_iadd hx hb dL_law_420 ?_
  refine va_sld hx hb hX hbl hbA hS (zvin (n := 2) hi 2 (by decide +kernel) (by decide)) dL_law_421 ?_
  obtain ⟨o2, hq2, hp2⟩ := sf_X12_format (xs (i + 1).toNatClampNeg) (xs (i + 2).toNatClampNeg) (fM 12) (fM 16) (fM 15) (fM 14) (by first | with_reducible assumption | exact ⟨by with_reducible assumption, by with_reducible assumption⟩ | decide)
  refine zcVi (ci := 12) (rest := []) (pc' := 425) (ws' := (zWX qx R K I F J N ++ zWM qm a0 kM b0 c0 fM jM)) hP hK hD hS hA ⟨hx, hb, hml, hown, hts⟩ (zf_X12_format l dC dI qm (xs (i + 1).toNatClampNeg) (xs (i + 2).toNatClampNeg) a0 b0 c0 (kM 12) (fM 12) (kM 16) (fM 16) (kM 15) (fM 15) (kM 14) (fM 14) o2 hq2 H.size) (cwV 2 hts gL_law_X12_format rfl rfl rfl zhd_X12_format ⟨Nat.le_of_ble_eq_true rfl, Nat.le_of_ble_eq_true rfl⟩) [89, 93, 97, 96, 95] rfl (by decide) [70, 74, 73, 72] rfl rfl rfl rfl hl.1 rfl (Nat.le_of_ble_eq_true rfl) dL_law_422 (zBud_room0 hBud) [none, none, none, none, none, none, none, none, none, none, none, none, none, none, none, none, none, none, none, none, none, none, none, none, none, none, none, none, none, none, none, none, none, none, none, none, none, none, none, none, none, none, none, none, none, none, none, none, none, none, none, none, none, none, none, none, none, none, none, none, none, none, none, none, none, none, none, none, none, none, none, none, none, none, none, none, none, none, none, none, none, none, none, none, none, none, none, none, none, some 0, none, none, none, some 1, none, some 4, some 3, some 2] (by decide +kernel) (by decide +kernel) rfl rfl rfl (fun H locs hP hD hS => ?_)
  refine lv_pop hx hb dL_law_425 rfl ?_
  refine lv_goto (tgt := 1169) hx hb dL_law_426 (by decide) ?_
  exact hnext R K I F J N b0 c0 fM jM cl sl H locs ls ⟨x0, x1, x2, x3, x4, x5, x6, x7, x8, x9, x10, x11, x12, x13, x14, x15, x16, x17, x18, x19, x20, x21, x22, x23, x24, x25, x26, x27, x28, x29, x30, x31, x32, x33, x34, x35, x36, x37, x38, x39, x40, x41, x42, x43, x44, x45, x46, x47, x48, x49, x50, x51, x52, x53, x54, x55⟩ ⟨m0, m1, m2, m3, m4, m5, m6, m7, m8, m9, m10, m11, m12, m13, m14, m15, m16, m17, m18, m19, m20, m21, m22, m23, m24, m25, m26, m27, m28, m29, m30, m31, m32, m33, m34, m35, m36⟩ (zBud_next hBud (by omega)) hK hP hD hS hl
