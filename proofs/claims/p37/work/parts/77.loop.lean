set_option maxHeartbeats 4000000 in
set_option maxRecDepth 100000 in
theorem law_loop {p : Program} {l : Launch} {e : Env} {s : State} {m : MethodId} {below : List Frame} {meth : Method} {c : Code} {dC : Nat → ClassId} {dI : Nat → Nat → Nat} {b L : Nat} {xs : Nat → Int32} {A : Nat → Prop} (hA : ∀ q : Nat, s.heap.size ≤ q → A q) (hA2 : ∀ q : Nat, A q → s.heap.size ≤ q) (hbA : ¬ A b) (C0 : lw_At p s m meth c b L xs) (hL : L ≤ 3072) (qx qm : Nat) (a0 kM : Nat → Nat) : ∀ (n t : Nat) (i : Int32) (R K : Nat → Nat) (I : Nat → Int32) (F : Nat → Nat → Int32) (J : Nat → Nat → Int64) (N : Nat → Nat) (b0 : Nat → Int32) (c0 : Nat → Int64) (fM : Nat → Nat → Int32) (jM : Nat → Nat → Int64) (cl sl : Nat) (H : Heap) (locs : List Loc) (ls : Array Slot), t + n = 513 → t ≤ 512 → i.toInt = 6 * (t : Int) → zInvX I F N → zInvM I F J N b0 c0 fM jM → zBud t (I 29) cl sl → va_K (dC, dI) vwCl (zTyX K ++ zTyM kM) s → va_P (dC, dI) vwCl (zWX qx R K I F J N ++ zWM qm a0 kM b0 c0 fM jM) H → va_D A (zWX qx R K I F J N ++ zWM qm a0 kM b0 c0 fM jM) → va_S A s.heap H locs → lv_has ls 4 [(3, .int i), (2, .ref qm), (1, .ref qx), (0, .ref b)] → W p l e room_1 s m #[Value.ref b] below meth c H locs cl sl (lw_Z below #[Value.ref b] s) (F0 m 18 ls []) := by
  intro n
  induction n with
  | zero =>
    intro t i R K I F J N b0 c0 fM jM cl sl H locs ls h1 h2
    omega
  | succ n ih =>
    intro t i R K I F J N b0 c0 fM jM cl sl H locs ls h1 h2 hi hIX hIM hBud hK hP hD hS hl
    obtain ⟨hx, hb, hr, hml, hown, hts0, hX, hbl, hlocks, hgv⟩ := id C0
    have hts : ∀ w ∈ wsL_law, w.before #[Value.ref b] s = true := fun w h => hts0 w (wsL_law_in w h)
    refine lv_iload_n hx hb dL_law_18 rfl (lv_at hl 0 rfl) ?_
    refine lv_aload_n hx hb dL_law_19 rfl (lv_at hl 3 rfl) ?_
    refine va_slen hx hb hX hbl hbA hS dL_law_20 ?_
    refine lv_bipush (v := 6) hx hb dL_law_21 zcb_6 ?_
    refine lv_isub hx hb dL_law_23 ?_
    refine lv_icmp_gt (tgt := 1174) hx hb dL_law_24 (by decide) (fun c1 => ?_) (fun c1 => ?_)
    · refine lv_iconst (v := 1) hx hb dL_law_1174 zci_1 ?_
      refine va_forget (fun q hq => hA2 _ (hS.2.2 q hq)) ?_
      refine W.widen (k := 600000) (n := 7302250) (zBud_room0 hBud).1 (zBud_room0 hBud).2 ?_
      exact lw_ret hx hb hr hlocks dL_law_1175
    have hi3 := zhead hi h2 hL c1
    have ht : t ≤ 511 := by omega
    have hnext : ∀ (R K : Nat → Nat) (I : Nat → Int32) (F : Nat → Nat → Int32) (J : Nat → Nat → Int64) (N : Nat → Nat) (b0 : Nat → Int32) (c0 : Nat → Int64) (fM : Nat → Nat → Int32) (jM : Nat → Nat → Int64) (cl sl : Nat) (H : Heap) (locs : List Loc) (ls : Array Slot), zInvX I F N → zInvM I F J N b0 c0 fM jM → zBud (t + 1) (I 29) cl sl → va_K (dC, dI) vwCl (zTyX K ++ zTyM kM) s → va_P (dC, dI) vwCl (zWX qx R K I F J N ++ zWM qm a0 kM b0 c0 fM jM) H → va_D A (zWX qx R K I F J N ++ zWM qm a0 kM b0 c0 fM jM) → va_S A s.heap H locs → lv_has ls 4 [(3, .int i), (2, .ref qm), (1, .ref qx), (0, .ref b)] → W p l e room_1 s m #[Value.ref b] below meth c H locs cl sl (lw_Z below #[Value.ref b] s) (F0 m 1168 ls []) := by
      intro R K I F J N b0 c0 fM jM cl sl H locs ls hIX hIM hBud hK hP hD hS hl
      refine lv_iinc (v := (i + 6)) (lv' := [(3, .int (i + 6)), (2, .ref qm), (1, .ref qx), (0, .ref b)]) hx hb dL_law_1168 hl (k := 0) rfl rfl (by decide) rfl (fun ls hl => ?_)
      refine lv_goto (tgt := 18) hx hb dL_law_1171 (by decide) ?_
      exact ih (t + 1) (i + 6) R K I F J N b0 c0 fM jM cl sl H locs ls (by omega) (by omega) (zstep6 hi ht rfl) hIX hIM hBud hK hP hD hS hl
    refine lv_aload_n hx hb dL_law_27 rfl (lv_at hl 3 rfl) ?_
    refine lv_iload_n hx hb dL_law_28 rfl (lv_at hl 0 rfl) ?_
    refine va_sld hx hb hX hbl hbA hS (zvin0 hi3) dL_law_29 ?_
    refine lv_bipush (v := 63) hx hb dL_law_30 (by decide +kernel) ?_
    refine lv_iand hx hb dL_law_32 ?_
    generalize (xs i.toNatClampNeg &&& 63) = x
    by_cases k0 : x = 0
    · subst k0
      refine lv_tableIn (tgt := 192) (off := 159) hx hb dL_law_33 (by decide +kernel) (by decide +kernel) (by decide +kernel) (by decide) ?_
      exact law_case0 hA hA2 hbA C0 hL t i hi3 qx qm a0 kM R K I F J N b0 c0 fM jM cl sl H locs ls hnext hIX hIM hBud hK hP hD hS hl
    have q0 := zk_ne rfl (by decide +kernel : (0 : Int32).toInt = 0) k0
    by_cases k1 : x = 1
    · subst k1
      refine lv_tableIn (tgt := 255) (off := 222) hx hb dL_law_33 (by decide +kernel) (by decide +kernel) (by decide +kernel) (by decide) ?_
      exact law_case1 hA hA2 hbA C0 hL t i hi3 qx qm a0 kM R K I F J N b0 c0 fM jM cl sl H locs ls hnext hIX hIM hBud hK hP hD hS hl
    have q1 := zk_ne rfl (by decide +kernel : (1 : Int32).toInt = 1) k1
    by_cases k2 : x = 2
    · subst k2
      refine lv_tableIn (tgt := 278) (off := 245) hx hb dL_law_33 (by decide +kernel) (by decide +kernel) (by decide +kernel) (by decide) ?_
      exact law_case2 hA hA2 hbA C0 hL t i hi3 qx qm a0 kM R K I F J N b0 c0 fM jM cl sl H locs ls hnext hIX hIM hBud hK hP hD hS hl
    have q2 := zk_ne rfl (by decide +kernel : (2 : Int32).toInt = 2) k2
    by_cases k3 : x = 3
    · subst k3
      refine lv_tableIn (tgt := 291) (off := 258) hx hb dL_law_33 (by decide +kernel) (by decide +kernel) (by decide +kernel) (by decide) ?_
      exact law_case3 hA hA2 hbA C0 hL t i hi3 qx qm a0 kM R K I F J N b0 c0 fM jM cl sl H locs ls hnext hIX hIM hBud hK hP hD hS hl
    have q3 := zk_ne rfl (by decide +kernel : (3 : Int32).toInt = 3) k3
    by_cases k4 : x = 4
    · subst k4
      refine lv_tableIn (tgt := 314) (off := 281) hx hb dL_law_33 (by decide +kernel) (by decide +kernel) (by decide +kernel) (by decide) ?_
      exact law_case4 hA hA2 hbA C0 hL t i hi3 qx qm a0 kM R K I F J N b0 c0 fM jM cl sl H locs ls hnext hIX hIM hBud hK hP hD hS hl
    have q4 := zk_ne rfl (by decide +kernel : (4 : Int32).toInt = 4) k4
    by_cases k5 : x = 5
    · subst k5
      refine lv_tableIn (tgt := 337) (off := 304) hx hb dL_law_33 (by decide +kernel) (by decide +kernel) (by decide +kernel) (by decide) ?_
      exact law_case5 hA hA2 hbA C0 hL t i hi3 qx qm a0 kM R K I F J N b0 c0 fM jM cl sl H locs ls hnext hIX hIM hBud hK hP hD hS hl
    have q5 := zk_ne rfl (by decide +kernel : (5 : Int32).toInt = 5) k5
    by_cases k6 : x = 6
    · subst k6
      refine lv_tableIn (tgt := 396) (off := 363) hx hb dL_law_33 (by decide +kernel) (by decide +kernel) (by decide +kernel) (by decide) ?_
      exact law_case6 hA hA2 hbA C0 hL t i hi3 qx qm a0 kM R K I F J N b0 c0 fM jM cl sl H locs ls hnext hIX hIM hBud hK hP hD hS hl
    have q6 := zk_ne rfl (by decide +kernel : (6 : Int32).toInt = 6) k6
    by_cases k7 : x = 7
    · subst k7
      refine lv_tableIn (tgt := 429) (off := 396) hx hb dL_law_33 (by decide +kernel) (by decide +kernel) (by decide +kernel) (by decide) ?_
      exact law_case7 hA hA2 hbA C0 hL t i hi3 qx qm a0 kM R K I F J N b0 c0 fM jM cl sl H locs ls hnext hIX hIM hBud hK hP hD hS hl
    have q7 := zk_ne rfl (by decide +kernel : (7 : Int32).toInt = 7) k7
    by_cases k8 : x = 8
    · subst k8
      refine lv_tableIn (tgt := 462) (off := 429) hx hb dL_law_33 (by decide +kernel) (by decide +kernel) (by decide +kernel) (by decide) ?_
      exact law_case8 hA hA2 hbA C0 hL t i hi3 qx qm a0 kM R K I F J N b0 c0 fM jM cl sl H locs ls hnext hIX hIM hBud hK hP hD hS hl
    have q8 := zk_ne rfl (by decide +kernel : (8 : Int32).toInt = 8) k8
    by_cases k9 : x = 9
    · subst k9
      refine lv_tableIn (tgt := 495) (off := 462) hx hb dL_law_33 (by decide +kernel) (by decide +kernel) (by decide +kernel) (by decide) ?_
      exact law_case9 hA hA2 hbA C0 hL t i hi3 qx qm a0 kM R K I F J N b0 c0 fM jM cl sl H locs ls hnext hIX hIM hBud hK hP hD hS hl
    have q9 := zk_ne rfl (by decide +kernel : (9 : Int32).toInt = 9) k9
    by_cases k10 : x = 10
    · subst k10
      refine lv_tableIn (tgt := 544) (off := 511) hx hb dL_law_33 (by decide +kernel) (by decide +kernel) (by decide +kernel) (by decide) ?_
      exact law_case10 hA hA2 hbA C0 hL t i hi3 qx qm a0 kM R K I F J N b0 c0 fM jM cl sl H locs ls hnext hIX hIM hBud hK hP hD hS hl
    have q10 := zk_ne rfl (by decide +kernel : (10 : Int32).toInt = 10) k10
    by_cases k11 : x = 11
    · subst k11
      refine lv_tableIn (tgt := 567) (off := 534) hx hb dL_law_33 (by decide +kernel) (by decide +kernel) (by decide +kernel) (by decide) ?_
      exact law_case11 hA hA2 hbA C0 hL t i hi3 qx qm a0 kM R K I F J N b0 c0 fM jM cl sl H locs ls hnext hIX hIM hBud hK hP hD hS hl
    have q11 := zk_ne rfl (by decide +kernel : (11 : Int32).toInt = 11) k11
    by_cases k12 : x = 12
    · subst k12
      refine lv_tableIn (tgt := 590) (off := 557) hx hb dL_law_33 (by decide +kernel) (by decide +kernel) (by decide +kernel) (by decide) ?_
      exact law_case12 hA hA2 hbA C0 hL t i hi3 qx qm a0 kM R K I F J N b0 c0 fM jM cl sl H locs ls hnext hIX hIM hBud hK hP hD hS hl
    have q12 := zk_ne rfl (by decide +kernel : (12 : Int32).toInt = 12) k12
    by_cases k13 : x = 13
    · subst k13
      refine lv_tableIn (tgt := 613) (off := 580) hx hb dL_law_33 (by decide +kernel) (by decide +kernel) (by decide +kernel) (by decide) ?_
      exact law_case13 hA hA2 hbA C0 hL t i hi3 qx qm a0 kM R K I F J N b0 c0 fM jM cl sl H locs ls hnext hIX hIM hBud hK hP hD hS hl
    have q13 := zk_ne rfl (by decide +kernel : (13 : Int32).toInt = 13) k13
    by_cases k14 : x = 14
    · subst k14
      refine lv_tableIn (tgt := 646) (off := 613) hx hb dL_law_33 (by decide +kernel) (by decide +kernel) (by decide +kernel) (by decide) ?_
      exact law_case14 hA hA2 hbA C0 hL t i hi3 qx qm a0 kM R K I F J N b0 c0 fM jM cl sl H locs ls hnext hIX hIM hBud hK hP hD hS hl
    have q14 := zk_ne rfl (by decide +kernel : (14 : Int32).toInt = 14) k14
    by_cases k15 : x = 15
    · subst k15
      refine lv_tableIn (tgt := 659) (off := 626) hx hb dL_law_33 (by decide +kernel) (by decide +kernel) (by decide +kernel) (by decide) ?_
      exact law_case15 hA hA2 hbA C0 hL t i hi3 qx qm a0 kM R K I F J N b0 c0 fM jM cl sl H locs ls hnext hIX hIM hBud hK hP hD hS hl
    have q15 := zk_ne rfl (by decide +kernel : (15 : Int32).toInt = 15) k15
    by_cases k16 : x = 16
    · subst k16
      refine lv_tableIn (tgt := 672) (off := 639) hx hb dL_law_33 (by decide +kernel) (by decide +kernel) (by decide +kernel) (by decide) ?_
      exact law_case16 hA hA2 hbA C0 hL t i hi3 qx qm a0 kM R K I F J N b0 c0 fM jM cl sl H locs ls hnext hIX hIM hBud hK hP hD hS hl
    have q16 := zk_ne rfl (by decide +kernel : (16 : Int32).toInt = 16) k16
    by_cases k17 : x = 17
    · subst k17
      refine lv_tableIn (tgt := 685) (off := 652) hx hb dL_law_33 (by decide +kernel) (by decide +kernel) (by decide +kernel) (by decide) ?_
      exact law_case17 hA hA2 hbA C0 hL t i hi3 qx qm a0 kM R K I F J N b0 c0 fM jM cl sl H locs ls hnext hIX hIM hBud hK hP hD hS hl
    have q17 := zk_ne rfl (by decide +kernel : (17 : Int32).toInt = 17) k17
    by_cases k18 : x = 18
    · subst k18
      refine lv_tableIn (tgt := 698) (off := 665) hx hb dL_law_33 (by decide +kernel) (by decide +kernel) (by decide +kernel) (by decide) ?_
      exact law_case18 hA hA2 hbA C0 hL t i hi3 qx qm a0 kM R K I F J N b0 c0 fM jM cl sl H locs ls hnext hIX hIM hBud hK hP hD hS hl
    have q18 := zk_ne rfl (by decide +kernel : (18 : Int32).toInt = 18) k18
    by_cases k19 : x = 19
    · subst k19
      refine lv_tableIn (tgt := 721) (off := 688) hx hb dL_law_33 (by decide +kernel) (by decide +kernel) (by decide +kernel) (by decide) ?_
      exact law_case19 hA hA2 hbA C0 hL t i hi3 qx qm a0 kM R K I F J N b0 c0 fM jM cl sl H locs ls hnext hIX hIM hBud hK hP hD hS hl
    have q19 := zk_ne rfl (by decide +kernel : (19 : Int32).toInt = 19) k19
    by_cases k20 : x = 20
    · subst k20
      refine lv_tableIn (tgt := 744) (off := 711) hx hb dL_law_33 (by decide +kernel) (by decide +kernel) (by decide +kernel) (by decide) ?_
      exact law_case20 hA hA2 hbA C0 hL t i hi3 qx qm a0 kM R K I F J N b0 c0 fM jM cl sl H locs ls hnext hIX hIM hBud hK hP hD hS hl
    have q20 := zk_ne rfl (by decide +kernel : (20 : Int32).toInt = 20) k20
    by_cases k21 : x = 21
    · subst k21
      refine lv_tableIn (tgt := 767) (off := 734) hx hb dL_law_33 (by decide +kernel) (by decide +kernel) (by decide +kernel) (by decide) ?_
      exact law_case21 hA hA2 hbA C0 hL t i hi3 qx qm a0 kM R K I F J N b0 c0 fM jM cl sl H locs ls hnext hIX hIM hBud hK hP hD hS hl
    have q21 := zk_ne rfl (by decide +kernel : (21 : Int32).toInt = 21) k21
    by_cases k22 : x = 22
    · subst k22
      refine lv_tableIn (tgt := 800) (off := 767) hx hb dL_law_33 (by decide +kernel) (by decide +kernel) (by decide +kernel) (by decide) ?_
      exact law_case22 hA hA2 hbA C0 hL t i hi3 qx qm a0 kM R K I F J N b0 c0 fM jM cl sl H locs ls hnext hIX hIM hBud hK hP hD hS hl
    have q22 := zk_ne rfl (by decide +kernel : (22 : Int32).toInt = 22) k22
    by_cases k23 : x = 23
    · subst k23
      refine lv_tableIn (tgt := 823) (off := 790) hx hb dL_law_33 (by decide +kernel) (by decide +kernel) (by decide +kernel) (by decide) ?_
      exact law_case23 hA hA2 hbA C0 hL t i hi3 qx qm a0 kM R K I F J N b0 c0 fM jM cl sl H locs ls hnext hIX hIM hBud hK hP hD hS hl
    have q23 := zk_ne rfl (by decide +kernel : (23 : Int32).toInt = 23) k23
    by_cases k24 : x = 24
    · subst k24
      refine lv_tableIn (tgt := 836) (off := 803) hx hb dL_law_33 (by decide +kernel) (by decide +kernel) (by decide +kernel) (by decide) ?_
      exact law_case24 hA hA2 hbA C0 hL t i hi3 qx qm a0 kM R K I F J N b0 c0 fM jM cl sl H locs ls hnext hIX hIM hBud hK hP hD hS hl
    have q24 := zk_ne rfl (by decide +kernel : (24 : Int32).toInt = 24) k24
    by_cases k25 : x = 25
    · subst k25
      refine lv_tableIn (tgt := 859) (off := 826) hx hb dL_law_33 (by decide +kernel) (by decide +kernel) (by decide +kernel) (by decide) ?_
      exact law_case25 hA hA2 hbA C0 hL t i hi3 qx qm a0 kM R K I F J N b0 c0 fM jM cl sl H locs ls hnext hIX hIM hBud hK hP hD hS hl
    have q25 := zk_ne rfl (by decide +kernel : (25 : Int32).toInt = 25) k25
    by_cases k26 : x = 26
    · subst k26
      refine lv_tableIn (tgt := 882) (off := 849) hx hb dL_law_33 (by decide +kernel) (by decide +kernel) (by decide +kernel) (by decide) ?_
      exact law_case26 hA hA2 hbA C0 hL t i hi3 qx qm a0 kM R K I F J N b0 c0 fM jM cl sl H locs ls hnext hIX hIM hBud hK hP hD hS hl
    have q26 := zk_ne rfl (by decide +kernel : (26 : Int32).toInt = 26) k26
    by_cases k27 : x = 27
    · subst k27
      refine lv_tableIn (tgt := 905) (off := 872) hx hb dL_law_33 (by decide +kernel) (by decide +kernel) (by decide +kernel) (by decide) ?_
      exact law_case27 hA hA2 hbA C0 hL t i hi3 qx qm a0 kM R K I F J N b0 c0 fM jM cl sl H locs ls hnext hIX hIM hBud hK hP hD hS hl
    have q27 := zk_ne rfl (by decide +kernel : (27 : Int32).toInt = 27) k27
    by_cases k28 : x = 28
    · subst k28
      refine lv_tableIn (tgt := 948) (off := 915) hx hb dL_law_33 (by decide +kernel) (by decide +kernel) (by decide +kernel) (by decide) ?_
      exact law_case28 hA hA2 hbA C0 hL t i hi3 qx qm a0 kM R K I F J N b0 c0 fM jM cl sl H locs ls hnext hIX hIM hBud hK hP hD hS hl
    have q28 := zk_ne rfl (by decide +kernel : (28 : Int32).toInt = 28) k28
    by_cases k29 : x = 29
    · subst k29
      refine lv_tableIn (tgt := 981) (off := 948) hx hb dL_law_33 (by decide +kernel) (by decide +kernel) (by decide +kernel) (by decide) ?_
      exact law_case29 hA hA2 hbA C0 hL t i hi3 qx qm a0 kM R K I F J N b0 c0 fM jM cl sl H locs ls hnext hIX hIM hBud hK hP hD hS hl
    have q29 := zk_ne rfl (by decide +kernel : (29 : Int32).toInt = 29) k29
    by_cases k30 : x = 30
    · subst k30
      refine lv_tableIn (tgt := 1004) (off := 971) hx hb dL_law_33 (by decide +kernel) (by decide +kernel) (by decide +kernel) (by decide) ?_
      exact law_case30 hA hA2 hbA C0 hL t i hi3 qx qm a0 kM R K I F J N b0 c0 fM jM cl sl H locs ls hnext hIX hIM hBud hK hP hD hS hl
    have q30 := zk_ne rfl (by decide +kernel : (30 : Int32).toInt = 30) k30
    by_cases k31 : x = 31
    · subst k31
      refine lv_tableIn (tgt := 1017) (off := 984) hx hb dL_law_33 (by decide +kernel) (by decide +kernel) (by decide +kernel) (by decide) ?_
      exact law_case31 hA hA2 hbA C0 hL t i hi3 qx qm a0 kM R K I F J N b0 c0 fM jM cl sl H locs ls hnext hIX hIM hBud hK hP hD hS hl
    have q31 := zk_ne rfl (by decide +kernel : (31 : Int32).toInt = 31) k31
    by_cases k32 : x = 32
    · subst k32
      refine lv_tableIn (tgt := 1040) (off := 1007) hx hb dL_law_33 (by decide +kernel) (by decide +kernel) (by decide +kernel) (by decide) ?_
      exact law_case32 hA hA2 hbA C0 hL t i hi3 qx qm a0 kM R K I F J N b0 c0 fM jM cl sl H locs ls hnext hIX hIM hBud hK hP hD hS hl
    have q32 := zk_ne rfl (by decide +kernel : (32 : Int32).toInt = 32) k32
    by_cases k33 : x = 33
    · subst k33
      refine lv_tableIn (tgt := 1073) (off := 1040) hx hb dL_law_33 (by decide +kernel) (by decide +kernel) (by decide +kernel) (by decide) ?_
      exact law_case33 hA hA2 hbA C0 hL t i hi3 qx qm a0 kM R K I F J N b0 c0 fM jM cl sl H locs ls hnext hIX hIM hBud hK hP hD hS hl
    have q33 := zk_ne rfl (by decide +kernel : (33 : Int32).toInt = 33) k33
    by_cases k34 : x = 34
    · subst k34
      refine lv_tableIn (tgt := 1122) (off := 1089) hx hb dL_law_33 (by decide +kernel) (by decide +kernel) (by decide +kernel) (by decide) ?_
      exact law_case34 hA hA2 hbA C0 hL t i hi3 qx qm a0 kM R K I F J N b0 c0 fM jM cl sl H locs ls hnext hIX hIM hBud hK hP hD hS hl
    have q34 := zk_ne rfl (by decide +kernel : (34 : Int32).toInt = 34) k34
    by_cases k35 : x = 35
    · subst k35
      refine lv_tableIn (tgt := 1145) (off := 1112) hx hb dL_law_33 (by decide +kernel) (by decide +kernel) (by decide +kernel) (by decide) ?_
      exact law_case35 hA hA2 hbA C0 hL t i hi3 qx qm a0 kM R K I F J N b0 c0 fM jM cl sl H locs ls hnext hIX hIM hBud hK hP hD hS hl
    have q35 := zk_ne rfl (by decide +kernel : (35 : Int32).toInt = 35) k35
    refine lv_tableOut (tgt := 1168) hx hb dL_law_33 (by omega) (by decide) ?_
    exact hnext R K I F J N b0 c0 fM jM cl sl H locs ls hIX hIM (zBud_next hBud ht) hK hP hD hS hl
