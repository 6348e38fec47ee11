set_option maxHeartbeats 4000000 in
set_option maxRecDepth 100000 in
theorem law_case0 {p : Program} {l : Launch} {e : Env} {s : State} {m : MethodId} {below : List Frame} {meth : Method} {c : Code} {dC : Nat → ClassId} {dI : Nat → Nat → Nat} {b L : Nat} {xs : Nat → Int32} {A : Nat → Prop} (hA : ∀ q : Nat, s.heap.size ≤ q → A q) (hA2 : ∀ q : Nat, A q → s.heap.size ≤ q) (hbA : ¬ A b) (C0 : lw_At p s m meth c b L xs) (hL : L ≤ 3072) (t : Nat) (i : Int32) (hi : i.toInt = 6 * (t : Int) ∧ 6 * t + 6 ≤ L ∧ L ≤ 3072) (qx qm : Nat) (a0 kM : Nat → Nat) (R K : Nat → Nat) (I : Nat → Int32) (F : Nat → Nat → Int32) (J : Nat → Nat → Int64) (N : Nat → Nat) (b0 : Nat → Int32) (c0 : Nat → Int64) (fM : Nat → Nat → Int32) (jM : Nat → Nat → Int64) (cl sl : Nat) (H : Heap) (locs : List Loc) (ls : Array Slot) (hnext : ∀ (R K : Nat → Nat) (I : Nat → Int32) (F : Nat → Nat → Int32) (J : Nat → Nat → Int64) (N : Nat → Nat) (b0 : Nat → Int32) (c0 : Nat → Int64) (fM : Nat → Nat → Int32) (jM : Nat → Nat → Int64) (cl sl : Nat) (H : Heap) (locs : List Loc) (ls : Array Slot), zInvX I F N → zInvM I F J N b0 c0 fM jM → zBud (t + 1) (I 29) cl sl → va_K (dC, dI) vwCl (zTyX K ++ zTyM kM) s → va_P (dC, dI) vwCl (zWX qx R K I F J N ++ zWM qm a0 kM b0 c0 fM jM) H → va_D A (zWX qx R K I F J N ++ zWM qm a0 kM b0 c0 fM jM) → va_S A s.heap H locs → lv_has ls 4 [(3, .int i), (2, .ref qm), (1, .ref qx), (0, .ref b)] → W p l e room_1 s m #[Value.ref b] below meth c H locs cl sl (lw_Z below #[Value.ref b] s) (F0 m 1169 ls [])) (hIX : zInvX I F N) (hIM : zInvM I F J N b0 c0 fM jM) (hBud : zBud t (I 29) cl sl) (hK : va_K (dC, dI) vwCl (zTyX K ++ zTyM kM) s) (hP : va_P (dC, dI) vwCl (zWX qx R K I F J N ++ zWM qm a0 kM b0 c0 fM jM) H) (hD : va_D A (zWX qx R K I F J N ++ zWM qm a0 kM b0 c0 fM jM)) (hS : va_S A s.heap H locs) (hl : lv_has ls 4 [(3, .int i), (2, .ref qm), (1, .ref qx), (0, .ref b)]) : W p l e room_1 s m #[Value.ref b] below meth c H locs cl sl (lw_Z below #[Value.ref b] s) (F0 m 192 ls []) := by
  obtain ⟨hx, hb, hr, hml, hown, hts0, hX, hbl, hlocks, hgv⟩ := id C0
  have hts : ∀ w ∈ wsL_law, w.before #[Value.ref b] s = true := fun w h => hts0 w (wsL_law_in w h)
  obtain ⟨x0, x1, x2, x3, x4, x5, x6, x7, x8, x9, x10, x11, x12, x13, x14, x15, x16, x17, x18, x19, x20, x21, x22, x23, x24, x25, x26, x27, x28, x29, x30, x31, x32, x33, x34, x35, x36, x37, x38, x39, x40, x41, x42, x43, x44, x45, x46, x47, x48, x49, x50, x51, x52, x53, x54, x55⟩ := hIX
  obtain ⟨m0, m1, m2, m3, m4, m5, m6, m7, m8, m9, m10, m11, m12, m13, m14, m15, m16, m17, m18, m19, m20, m21, m22, m23, m24, m25, m26, m27, m28, m29, m30, m31, m32, m33, m34, m35, m36⟩ := hIM
  refine lv_aload_n hx hb dL_law_192 rfl (lv_at hl 2 rfl) ?_
  refine lv_aload_n hx hb dL_law_193 rfl (lv_at hl 3 rfl) ?_
  refine lv_iload_n hx hb dL_law_194 rfl (lv_at hl 0 rfl) ?_
  refine lv_iconst (v := 1) hx hb dL_law_195 zci_1 ?_
  refine lv_iadd hx hb dL_law_196 ?_
  refine va_sld hx hb hX hbl hbA hS (zvin (n := 1) hi 1 (by decide +kernel) (by decide)) dL_law_197 ?_
  refine lv_aload_n hx hb dL_law_198 rfl (lv_at hl 3 rfl) ?_
  refine lv_iload_n hx hb dL_law_199 rfl (lv_at hl 0 rfl) ?_
  refine lv_iconst (v := 2) hx hb dL_law_200 zci_2 ?_
  refine lv_iadd hx hb dL_law_201 ?_
  refine va_sld hx hb hX hbl hbA hS (zvin (n := 2) hi 2 (by decide +kernel) (by decide)) dL_law_202 ?_
  refine lv_aload_n hx hb dL_law_203 rfl (lv_at hl 3 rfl) ?_
  refine lv_iload_n hx hb dL_law_204 rfl (lv_at hl 0 rfl) ?_
  refine lv_iconst (v := 3) hx hb dL_law_205 zci_3 ?_
  refine lv_iadd hx hb dL_law_206 ?_
  refine va_sld hx hb hX hbl hbA hS (zvin (n := 3) hi 3 (by decide +kernel) (by decide)) dL_law_207 ?_
  refine lv_aload_n hx hb dL_law_208 rfl (lv_at hl 3 rfl) ?_
  refine lv_iload_n hx hb dL_law_209 rfl (lv_at hl 0 rfl) ?_
  refine lv_iconst (v := 4) hx hb dL_law_210 zci_4 ?_
  refine lv_iadd hx hb dL_law_211 ?_
  refine va_sld hx hb hX hbl hbA hS (zvin (n := 4) hi 4 (by decide +kernel) (by decide)) dL_law_212 ?_
  refine lv_aload_n hx hb dL_law_213 rfl (lv_at hl 3 rfl) ?_
  refine lv_iload_n hx hb dL_law_214 rfl (lv_at hl 0 rfl) ?_
  refine lv_iconst (v := 5) hx hb dL_law_215 zci_5 ?_
  refine lv_iadd hx hb dL_law_216 ?_
  refine va_sld hx hb hX hbl hbA hS (zvin (n := 5) hi 5 (by decide +kernel) (by decide)) dL_law_217 ?_
  obtain ⟨o1, hq1, hp1⟩ := sf_X11_feed (xs (i + 1).toNatClampNeg) (xs (i + 2).toNatClampNeg) (xs (i + 3).toNatClampNeg) (xs (i + 4).toNatClampNeg) (xs (i + 5).toNatClampNeg) (I 0) (F 0) (F 1) (by first | with_reducible assumption | exact ⟨by with_reducible assumption, by with_reducible assumption⟩ | decide)
  obtain ⟨hp1_0, hp1_1, hp1_2, hp1_3⟩ := hp1
  refine zcVi (ci := 11) (rest := []) (pc' := 221) (ws' := (zWX qx R K (zI I 0 o1.2.1) (zF2 (zF2 F 0 o1.2.2.1) 1 o1.2.2.2) J N ++ zWM qm a0 kM b0 c0 fM jM)) hP hK hD hS hA ⟨hx, hb, hml, hown, hts⟩ (zf_X11_feed l dC dI qx (xs (i + 1).toNatClampNeg) (xs (i + 2).toNatClampNeg) (xs (i + 3).toNatClampNeg) (xs (i + 4).toNatClampNeg) (xs (i + 5).toNatClampNeg) (R 0) (I 0) (R 1) (R 2) (R 3) (R 4) (R 5) (R 6) (R 7) (R 8) (R 9) (R 10) (R 11) (R 12) (R 13) (I 1) (K 0) (F 0) (K 1) (F 1) o1 hq1 H.size) (cwV 5 hts gL_law_X11_feed rfl rfl rfl zhd_X11_feed ⟨Nat.le_of_ble_eq_true rfl, Nat.le_of_ble_eq_true rfl⟩) [0, 1, 2] rfl (by decide) [0, 1] rfl rfl rfl rfl hl.1 rfl (Nat.le_of_ble_eq_true rfl) dL_law_218 (zBud_room0 hBud) [some 0, some 1, some 2] (by decide +kernel) (by decide +kernel) rfl rfl rfl (fun H locs hP hD hS => ?_)
  refine lv_pop hx hb dL_law_221 rfl ?_
  refine lv_aload_n hx hb dL_law_222 rfl (lv_at hl 1 rfl) ?_
  refine lv_aload_n hx hb dL_law_223 rfl (lv_at hl 3 rfl) ?_
  refine lv_iload_n hx hb dL_law_224 rfl (lv_at hl 0 rfl) ?_
  refine lv_iconst (v := 1) hx hb dL_law_225 zci_1 ?_
  refine lv_iadd hx hb dL_law_226 ?_
  refine va_sld hx hb hX hbl hbA hS (zvin (n := 1) hi 1 (by decide +kernel) (by decide)) dL_law_227 ?_
  refine lv_aload_n hx hb dL_law_228 rfl (lv_at hl 3 rfl) ?_
  refine lv_iload_n hx hb dL_law_229 rfl (lv_at hl 0 rfl) ?_
  refine lv_iconst (v := 2) hx hb dL_law_230 zci_2 ?_
  refine lv_iadd hx hb dL_law_231 ?_
  refine va_sld hx hb hX hbl hbA hS (zvin (n := 2) hi 2 (by decide +kernel) (by decide)) dL_law_232 ?_
  refine lv_aload_n hx hb dL_law_233 rfl (lv_at hl 3 rfl) ?_
  refine lv_iload_n hx hb dL_law_234 rfl (lv_at hl 0 rfl) ?_
  refine lv_iconst (v := 3) hx hb dL_law_235 zci_3 ?_
  refine lv_iadd hx hb dL_law_236 ?_
  refine va_sld hx hb hX hbl hbA hS (zvin (n := 3) hi 3 (by decide +kernel) (by decide)) dL_law_237 ?_
  refine lv_aload_n hx hb dL_law_238 rfl (lv_at hl 3 rfl) ?_
  refine lv_iload_n hx hb dL_law_239 rfl (lv_at hl 0 rfl) ?_
  refine lv_iconst (v := 4) hx hb dL_law_240 zci_4 ?_
  refine lv_iadd hx hb dL_law_241 ?_
  refine va_sld hx hb hX hbl hbA hS (zvin (n := 4) hi 4 (by decide +kernel) (by decide)) dL_law_242 ?_
  refine lv_aload_n hx hb dL_law_243 rfl (lv_at hl 3 rfl) ?_
  refine lv_iload_n hx hb dL_law_244 rfl (lv_at hl 0 rfl) ?_
  refine lv_iconst (v := 5) hx hb dL_law_245 zci_5 ?_
  refine lv_iadd hx hb dL_law_246 ?_
  refine va_sld hx hb hX hbl hbA hS (zvin (n := 5) hi 5 (by decide +kernel) (by decide)) dL_law_247 ?_
  obtain ⟨o2, hq2, hp2⟩ := sf_X12_feed (xs (i + 1).toNatClampNeg) (xs (i + 2).toNatClampNeg) (xs (i + 3).toNatClampNeg) (xs (i + 4).toNatClampNeg) (xs (i + 5).toNatClampNeg) (b0 1) (fM 0) (fM 2) (by first | with_reducible assumption | exact ⟨by with_reducible assumption, by with_reducible assumption⟩ | decide) (by first | with_reducible assumption | exact ⟨by with_reducible assumption, by with_reducible assumption⟩ | decide)
  obtain ⟨hp2_0, hp2_1, hp2_2, hp2_3, hp2_4, hp2_5, hp2_6, hp2_7, hp2_8, hp2_9⟩ := hp2
  refine zcVi (ci := 12) (rest := []) (pc' := 251) (ws' := (zWX qx R K (zI I 0 o1.2.1) (zF2 (zF2 F 0 o1.2.2.1) 1 o1.2.2.2) J N ++ zWM qm a0 kM (zI b0 1 o2.2.1) c0 (zF2 (zF2 fM 0 o2.2.2.1) 2 o2.2.2.2) jM)) hP hK hD hS hA ⟨hx, hb, hml, hown, hts⟩ (zf_X12_feed l dC dI qm (xs (i + 1).toNatClampNeg) (xs (i + 2).toNatClampNeg) (xs (i + 3).toNatClampNeg) (xs (i + 4).toNatClampNeg) (xs (i + 5).toNatClampNeg) a0 b0 c0 (kM 0) (fM 0) (kM 2) (fM 2) o2 hq2 H.size) (cwV 5 hts gL_law_X12_feed rfl rfl rfl zhd_X12_feed ⟨Nat.le_of_ble_eq_true rfl, Nat.le_of_ble_eq_true rfl⟩) [89, 90, 91] rfl (by decide) [67, 68] rfl rfl rfl rfl hl.1 rfl (Nat.le_of_ble_eq_true rfl) dL_law_248 (zBud_room0 hBud) [none, none, none, none, none, none, none, none, none, none, none, none, none, none, none, none, none, none, none, none, none, none, none, none, none, none, none, none, none, none, none, none, none, none, none, none, none, none, none, none, none, none, none, none, none, none, none, none, none, none, none, none, none, none, none, none, none, none, none, none, none, none, none, none, none, none, none, none, none, none, none, none, none, none, none, none, none, none, none, none, none, none, none, none, none, none, none, none, none, some 0, some 1, some 2] (by decide +kernel) (by decide +kernel) rfl rfl rfl (fun H locs hP hD hS => ?_)
  refine lv_pop hx hb dL_law_251 rfl ?_
  refine lv_goto (tgt := 1169) hx hb dL_law_252 (by decide) ?_
  have yx0 : 0 ≤ o1.2.1 ∧ o1.2.1 ≤ 1200 := by first | with_reducible assumption | exact ⟨by with_reducible assumption, by with_reducible assumption⟩ | decide
  have ym0 : 0 ≤ o2.2.1 ∧ o2.2.1 ≤ 1200 := by first | with_reducible assumption | exact ⟨by with_reducible assumption, by with_reducible assumption⟩ | decide
  have ym11 : (∀ i : Nat, 0 ≤ o2.2.2.1 i ∧ o2.2.2.1 i ≤ 255) := by first | with_reducible assumption | exact ⟨by with_reducible assumption, by with_reducible assumption⟩ | decide
  have ym26 : o1.2.1 = o2.2.1 := (zeq_feed m26 x0 hq1 hq2).2
  have ym27 : zTp o1.2.2.1 o2.2.2.1 := zTp_feed m26 x0 m27 hq1 hq2
  exact hnext R K (zI I 0 o1.2.1) (zF2 (zF2 F 0 o1.2.2.1) 1 o1.2.2.2) J N (zI b0 1 o2.2.1) c0 (zF2 (zF2 fM 0 o2.2.2.1) 2 o2.2.2.2) jM cl sl H locs ls ⟨yx0, x1, x2, x3, x4, x5, x6, x7, x8, x9, x10, x11, x12, x13, x14, x15, x16, x17, x18, x19, x20, x21, x22, x23, x24, x25, x26, x27, x28, x29, x30, x31, x32, x33, x34, x35, x36, x37, x38, x39, x40, x41, x42, x43, x44, x45, x46, x47, x48, x49, x50, x51, x52, x53, x54, x55⟩ ⟨ym0, m1, m2, m3, m4, m5, m6, m7, m8, m9, m10, ym11, m12, m13, m14, m15, m16, m17, m18, m19, m20, m21, m22, m23, m24, m25, ym26, ym27, m28, m29, m30, m31, m32, m33, m34, m35, m36⟩ (zBud_next hBud (by omega)) hK hP hD hS hl
