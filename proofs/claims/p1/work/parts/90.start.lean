set_option maxHeartbeats 4000000 in
set_option maxRecDepth 100000 in
theorem law_head {p : Program} {l : Launch} {e : Env} {s : State} {m : MethodId} {below : List Frame} {meth : Method} {c : Code} {dC : Nat → ClassId} {dI : Nat → Nat → Nat} {b : Nat} {xs : Nat → Int32} {A : Nat → Prop} (hA : ∀ q : Nat, s.heap.size ≤ q → A q) (hA2 : ∀ q : Nat, A q → s.heap.size ≤ q) (hbA : ¬ A b) {L : Nat} (hL : L ≤ 6) (C0 : lw_At p s m meth c b L xs) (qx qm : Nat) (ux um : zU) (H : Heap) (locs : List Loc) (hK : va_K (dC, dI) vwCl [((ux.1 14), .byte), ((ux.1 15), .int), ((um.1 41), .int), ((um.1 42), .int), ((um.1 43), .int), ((um.1 44), .int), ((um.1 45), .int)] s) (hP : va_P (dC, dI) vwCl [(qx, .inr (11, [.ref (ux.1 0), .int 0, .ref (ux.1 1), .ref (ux.1 2), .ref (ux.1 3), .ref (ux.1 4), .ref (ux.1 5), .ref (ux.1 6), .ref (ux.1 7), .ref (ux.1 8), .ref (ux.1 9), .ref (ux.1 10), .ref (ux.1 11), .ref (ux.1 12), .ref (ux.1 13), .int 1])), ((ux.1 0), .inl ((ux.1 14), 1200, .inl (fun _ => 0))), ((ux.1 1), .inl ((ux.1 15), 5, .inl (fun _ => 0))), ((ux.1 2), .inr (5, [.ref (ux.1 16), .int 0, .int 0, .int (-1)])), ((ux.1 16), .inr (10, [.ref (ux.1 17), .ref (ux.1 18), .int 0, .int 0, .int 0, .int 0, .int 0, .int 0])), ((ux.1 3), .inr (9, [.int 0, .ref (ux.1 19), .ref (ux.1 20), .ref (ux.1 21), .ref (ux.1 22), .int 0, .ref (ux.1 23), .ref (ux.1 24), .ref (ux.1 25)])), ((ux.1 23), .inr (4, [.int 0, .int 0, .ref (ux.1 26), .ref (ux.1 27), .ref (ux.1 28), .ref (ux.1 29), .ref (ux.1 30), .ref (ux.1 31), .ref (ux.1 32), .ref (ux.1 33)])), ((ux.1 24), .inr (2, [.int 0, .int 0, .int 0, .ref (ux.1 34), .ref (ux.1 35), .ref (ux.1 36)])), ((ux.1 4), .inr (9, [.int 0, .ref (ux.1 37), .ref (ux.1 38), .ref (ux.1 39), .ref (ux.1 40), .int 0, .ref (ux.1 41), .ref (ux.1 42), .ref (ux.1 43)])), ((ux.1 41), .inr (4, [.int 0, .int 0, .ref (ux.1 44), .ref (ux.1 45), .ref (ux.1 46), .ref (ux.1 47), .ref (ux.1 48), .ref (ux.1 49), .ref (ux.1 50), .ref (ux.1 51)])), ((ux.1 42), .inr (2, [.int 0, .int 0, .int 0, .ref (ux.1 52), .ref (ux.1 53), .ref (ux.1 54)])), ((ux.1 10), .inr (1, [.ref (ux.1 55), .ref (ux.1 56), .int 0, .int 0, .ref (ux.1 57), .ref (ux.1 58), .int 0, .int (-1), .int 0, .int (-1), .int 0, .ref (ux.1 59), .ref (ux.1 60), .ref (ux.1 61)])), ((ux.1 11), .inr (3, [.ref (ux.1 62), .ref (ux.1 63), .int 0, .int 0, .ref (ux.1 64), .ref (ux.1 65), .ref (ux.1 66), .ref (ux.1 67), .int 0, .ref (ux.1 68), .int 0, .int 0, .int 0, .int 0, .int (-1), .int (-1)])), ((ux.1 12), .inr (0, [.ref (ux.1 69), .ref (ux.1 70), .ref (ux.1 71), .int (-1), .int (-1)])), (qm, .inr (12, [.ref (um.1 0), .int 0, .ref (um.1 1), .int 0, .int (-1), .int 0, .int 0, .int 0, .int 0, .int (-1), .ref (um.1 2), .int 0, .ref (um.1 3), .ref (um.1 4), .ref (um.1 5), .ref (um.1 6), .ref (um.1 7), .ref (um.1 8), .ref (um.1 9), .ref (um.1 10), .ref (um.1 11), .ref (um.1 12), .ref (um.1 13), .ref (um.1 14), .ref (um.1 15), .ref (um.1 16), .ref (um.1 17), .ref (um.1 18), .long 0, .ref (um.1 19), .int 0, .ref (um.1 20), .ref (um.1 21), .int (-1), .long 0, .ref (um.1 22), .ref (um.1 23), .ref (um.1 24), .int 0, .ref (um.1 25), .ref (um.1 26), .int (-2), .int 0, .ref (um.1 27), .int 0, .int 0, .ref (um.1 28), .ref (um.1 29), .ref (um.1 30), .ref (um.1 31), .int 0, .int 0, .int (-1), .int (-1), .ref (um.1 32), .ref (um.1 33), .ref (um.1 34), .int 0, .int (-1), .int (-1), .ref (um.1 35), .ref (um.1 36), .ref (um.1 37), .ref (um.1 38), .int 1, .ref (um.1 39), .ref (um.1 40)])), ((um.1 0), .inl ((um.1 41), 1200, .inl (fun _ => 0))), ((um.1 1), .inl ((um.1 42), 5, .inl (fun _ => 0))), ((um.1 3), .inl ((um.1 43), 2, .inl (fun _ => 0))), ((um.1 8), .inl ((um.1 44), 2, .inl (fun _ => 0))), ((um.1 15), .inl ((um.1 45), 2, .inl (fun _ => 0)))] H) (hD : va_D A [(qx, .inr (11, [.ref (ux.1 0), .int 0, .ref (ux.1 1), .ref (ux.1 2), .ref (ux.1 3), .ref (ux.1 4), .ref (ux.1 5), .ref (ux.1 6), .ref (ux.1 7), .ref (ux.1 8), .ref (ux.1 9), .ref (ux.1 10), .ref (ux.1 11), .ref (ux.1 12), .ref (ux.1 13), .int 1])), ((ux.1 0), .inl ((ux.1 14), 1200, .inl (fun _ => 0))), ((ux.1 1), .inl ((ux.1 15), 5, .inl (fun _ => 0))), ((ux.1 2), .inr (5, [.ref (ux.1 16), .int 0, .int 0, .int (-1)])), ((ux.1 16), .inr (10, [.ref (ux.1 17), .ref (ux.1 18), .int 0, .int 0, .int 0, .int 0, .int 0, .int 0])), ((ux.1 3), .inr (9, [.int 0, .ref (ux.1 19), .ref (ux.1 20), .ref (ux.1 21), .ref (ux.1 22), .int 0, .ref (ux.1 23), .ref (ux.1 24), .ref (ux.1 25)])), ((ux.1 23), .inr (4, [.int 0, .int 0, .ref (ux.1 26), .ref (ux.1 27), .ref (ux.1 28), .ref (ux.1 29), .ref (ux.1 30), .ref (ux.1 31), .ref (ux.1 32), .ref (ux.1 33)])), ((ux.1 24), .inr (2, [.int 0, .int 0, .int 0, .ref (ux.1 34), .ref (ux.1 35), .ref (ux.1 36)])), ((ux.1 4), .inr (9, [.int 0, .ref (ux.1 37), .ref (ux.1 38), .ref (ux.1 39), .ref (ux.1 40), .int 0, .ref (ux.1 41), .ref (ux.1 42), .ref (ux.1 43)])), ((ux.1 41), .inr (4, [.int 0, .int 0, .ref (ux.1 44), .ref (ux.1 45), .ref (ux.1 46), .ref (ux.1 47), .ref (ux.1 48), .ref (ux.1 49), .ref (ux.1 50), .ref (ux.1 51)])), ((ux.1 42), .inr (2, [.int 0, .int 0, .int 0, .ref (ux.1 52), .ref (ux.1 53), .ref (ux.1 54)])), ((ux.1 10), .inr (1, [.ref (ux.1 55), .ref (ux.1 56), .int 0, .int 0, .ref (ux.1 57), .ref (ux.1 58), .int 0, .int (-1), .int 0, .int (-1), .int 0, .ref (ux.1 59), .ref (ux.1 60), .ref (ux.1 61)])), ((ux.1 11), .inr (3, [.ref (ux.1 62), .ref (ux.1 63), .int 0, .int 0, .ref (ux.1 64), .ref (ux.1 65), .ref (ux.1 66), .ref (ux.1 67), .int 0, .ref (ux.1 68), .int 0, .int 0, .int 0, .int 0, .int (-1), .int (-1)])), ((ux.1 12), .inr (0, [.ref (ux.1 69), .ref (ux.1 70), .ref (ux.1 71), .int (-1), .int (-1)])), (qm, .inr (12, [.ref (um.1 0), .int 0, .ref (um.1 1), .int 0, .int (-1), .int 0, .int 0, .int 0, .int 0, .int (-1), .ref (um.1 2), .int 0, .ref (um.1 3), .ref (um.1 4), .ref (um.1 5), .ref (um.1 6), .ref (um.1 7), .ref (um.1 8), .ref (um.1 9), .ref (um.1 10), .ref (um.1 11), .ref (um.1 12), .ref (um.1 13), .ref (um.1 14), .ref (um.1 15), .ref (um.1 16), .ref (um.1 17), .ref (um.1 18), .long 0, .ref (um.1 19), .int 0, .ref (um.1 20), .ref (um.1 21), .int (-1), .long 0, .ref (um.1 22), .ref (um.1 23), .ref (um.1 24), .int 0, .ref (um.1 25), .ref (um.1 26), .int (-2), .int 0, .ref (um.1 27), .int 0, .int 0, .ref (um.1 28), .ref (um.1 29), .ref (um.1 30), .ref (um.1 31), .int 0, .int 0, .int (-1), .int (-1), .ref (um.1 32), .ref (um.1 33), .ref (um.1 34), .int 0, .int (-1), .int (-1), .ref (um.1 35), .ref (um.1 36), .ref (um.1 37), .ref (um.1 38), .int 1, .ref (um.1 39), .ref (um.1 40)])), ((um.1 0), .inl ((um.1 41), 1200, .inl (fun _ => 0))), ((um.1 1), .inl ((um.1 42), 5, .inl (fun _ => 0))), ((um.1 3), .inl ((um.1 43), 2, .inl (fun _ => 0))), ((um.1 8), .inl ((um.1 44), 2, .inl (fun _ => 0))), ((um.1 15), .inl ((um.1 45), 2, .inl (fun _ => 0)))]) (hS : va_S A s.heap H locs) (ls : Array Slot) (hl : lv_has ls 4 [(3, .int 0), (2, .ref qm), (1, .ref qx), (0, .ref b)]) : W p l e room_1 s m #[Value.ref b] below meth c H locs 132 7261 (lw_Z below #[Value.ref b] s) (F0 m 18 ls []) := by
  rcases (show L = 0 ∨ L = 1 ∨ L = 2 ∨ L = 3 ∨ L = 4 ∨ L = 5 ∨ L = 6 by omega) with rfl | rfl | rfl | rfl | rfl | rfl | rfl
  · obtain ⟨hx, hb, hr, hml, hown, hts0, hX, hbl, hlocks, hgv⟩ := id C0
    have hts : ∀ w ∈ wsL_law, w.before #[Value.ref b] s = true := fun w h => hts0 w (wsL_law_in w h)
    refine lv_iload_n hx hb dL_law_18 rfl (lv_at hl 0 rfl) ?_
    refine lv_aload_n hx hb dL_law_19 rfl (lv_at hl 3 rfl) ?_
    refine va_slen hx hb hX hbl hbA hS dL_law_20 ?_
    refine lv_topi (fun z_1 ez_1 => ?_)
    obtain rfl : z_1 = 0 := ez_1.trans (by decide +kernel)
    refine lv_bipush (v := 6) hx hb dL_law_21 (by decide +kernel) ?_
    refine lv_isub hx hb dL_law_23 ?_
    refine lv_topi (fun z_2 ez_2 => ?_)
    obtain rfl : z_2 = (-6) := ez_2.trans (by decide +kernel)
    refine lv_icmp_gt (tgt := 1183) hx hb dL_law_24 (by decide) (fun c_3 => ?_) (fun c_3 => absurd (by decide +kernel) c_3)
    refine lv_iconst (v := 1) hx hb dL_law_1183 (by decide +kernel) ?_
    refine va_forget (fun q hq => hA2 _ (hS.2.2 q hq)) ?_
    refine W.widen (k := 600000) (n := 7302250) (Nat.le_of_ble_eq_true rfl) (Nat.le_of_ble_eq_true rfl) ?_
    exact lw_ret hx hb hr hlocks dL_law_1184
  · obtain ⟨hx, hb, hr, hml, hown, hts0, hX, hbl, hlocks, hgv⟩ := id C0
    have hts : ∀ w ∈ wsL_law, w.before #[Value.ref b] s = true := fun w h => hts0 w (wsL_law_in w h)
    refine lv_iload_n hx hb dL_law_18 rfl (lv_at hl 0 rfl) ?_
    refine lv_aload_n hx hb dL_law_19 rfl (lv_at hl 3 rfl) ?_
    refine va_slen hx hb hX hbl hbA hS dL_law_20 ?_
    refine lv_topi (fun z_1 ez_1 => ?_)
    obtain rfl : z_1 = 1 := ez_1.trans (by decide +kernel)
    refine lv_bipush (v := 6) hx hb dL_law_21 (by decide +kernel) ?_
    refine lv_isub hx hb dL_law_23 ?_
    refine lv_topi (fun z_2 ez_2 => ?_)
    obtain rfl : z_2 = (-5) := ez_2.trans (by decide +kernel)
    refine lv_icmp_gt (tgt := 1183) hx hb dL_law_24 (by decide) (fun c_3 => ?_) (fun c_3 => absurd (by decide +kernel) c_3)
    refine lv_iconst (v := 1) hx hb dL_law_1183 (by decide +kernel) ?_
    refine va_forget (fun q hq => hA2 _ (hS.2.2 q hq)) ?_
    refine W.widen (k := 600000) (n := 7302250) (Nat.le_of_ble_eq_true rfl) (Nat.le_of_ble_eq_true rfl) ?_
    exact lw_ret hx hb hr hlocks dL_law_1184
  · obtain ⟨hx, hb, hr, hml, hown, hts0, hX, hbl, hlocks, hgv⟩ := id C0
    have hts : ∀ w ∈ wsL_law, w.before #[Value.ref b] s = true := fun w h => hts0 w (wsL_law_in w h)
    refine lv_iload_n hx hb dL_law_18 rfl (lv_at hl 0 rfl) ?_
    refine lv_aload_n hx hb dL_law_19 rfl (lv_at hl 3 rfl) ?_
    refine va_slen hx hb hX hbl hbA hS dL_law_20 ?_
    refine lv_topi (fun z_1 ez_1 => ?_)
    obtain rfl : z_1 = 2 := ez_1.trans (by decide +kernel)
    refine lv_bipush (v := 6) hx hb dL_law_21 (by decide +kernel) ?_
    refine lv_isub hx hb dL_law_23 ?_
    refine lv_topi (fun z_2 ez_2 => ?_)
    obtain rfl : z_2 = (-4) := ez_2.trans (by decide +kernel)
    refine lv_icmp_gt (tgt := 1183) hx hb dL_law_24 (by decide) (fun c_3 => ?_) (fun c_3 => absurd (by decide +kernel) c_3)
    refine lv_iconst (v := 1) hx hb dL_law_1183 (by decide +kernel) ?_
    refine va_forget (fun q hq => hA2 _ (hS.2.2 q hq)) ?_
    refine W.widen (k := 600000) (n := 7302250) (Nat.le_of_ble_eq_true rfl) (Nat.le_of_ble_eq_true rfl) ?_
    exact lw_ret hx hb hr hlocks dL_law_1184
  · obtain ⟨hx, hb, hr, hml, hown, hts0, hX, hbl, hlocks, hgv⟩ := id C0
    have hts : ∀ w ∈ wsL_law, w.before #[Value.ref b] s = true := fun w h => hts0 w (wsL_law_in w h)
    refine lv_iload_n hx hb dL_law_18 rfl (lv_at hl 0 rfl) ?_
    refine lv_aload_n hx hb dL_law_19 rfl (lv_at hl 3 rfl) ?_
    refine va_slen hx hb hX hbl hbA hS dL_law_20 ?_
    refine lv_topi (fun z_1 ez_1 => ?_)
    obtain rfl : z_1 = 3 := ez_1.trans (by decide +kernel)
    refine lv_bipush (v := 6) hx hb dL_law_21 (by decide +kernel) ?_
    refine lv_isub hx hb dL_law_23 ?_
    refine lv_topi (fun z_2 ez_2 => ?_)
    obtain rfl : z_2 = (-3) := ez_2.trans (by decide +kernel)
    refine lv_icmp_gt (tgt := 1183) hx hb dL_law_24 (by decide) (fun c_3 => ?_) (fun c_3 => absurd (by decide +kernel) c_3)
    refine lv_iconst (v := 1) hx hb dL_law_1183 (by decide +kernel) ?_
    refine va_forget (fun q hq => hA2 _ (hS.2.2 q hq)) ?_
    refine W.widen (k := 600000) (n := 7302250) (Nat.le_of_ble_eq_true rfl) (Nat.le_of_ble_eq_true rfl) ?_
    exact lw_ret hx hb hr hlocks dL_law_1184
  · obtain ⟨hx, hb, hr, hml, hown, hts0, hX, hbl, hlocks, hgv⟩ := id C0
    have hts : ∀ w ∈ wsL_law, w.before #[Value.ref b] s = true := fun w h => hts0 w (wsL_law_in w h)
    refine lv_iload_n hx hb dL_law_18 rfl (lv_at hl 0 rfl) ?_
    refine lv_aload_n hx hb dL_law_19 rfl (lv_at hl 3 rfl) ?_
    refine va_slen hx hb hX hbl hbA hS dL_law_20 ?_
    refine lv_topi (fun z_1 ez_1 => ?_)
    obtain rfl : z_1 = 4 := ez_1.trans (by decide +kernel)
    refine lv_bipush (v := 6) hx hb dL_law_21 (by decide +kernel) ?_
    refine lv_isub hx hb dL_law_23 ?_
    refine lv_topi (fun z_2 ez_2 => ?_)
    obtain rfl : z_2 = (-2) := ez_2.trans (by decide +kernel)
    refine lv_icmp_gt (tgt := 1183) hx hb dL_law_24 (by decide) (fun c_3 => ?_) (fun c_3 => absurd (by decide +kernel) c_3)
    refine lv_iconst (v := 1) hx hb dL_law_1183 (by decide +kernel) ?_
    refine va_forget (fun q hq => hA2 _ (hS.2.2 q hq)) ?_
    refine W.widen (k := 600000) (n := 7302250) (Nat.le_of_ble_eq_true rfl) (Nat.le_of_ble_eq_true rfl) ?_
    exact lw_ret hx hb hr hlocks dL_law_1184
  · obtain ⟨hx, hb, hr, hml, hown, hts0, hX, hbl, hlocks, hgv⟩ := id C0
    have hts : ∀ w ∈ wsL_law, w.before #[Value.ref b] s = true := fun w h => hts0 w (wsL_law_in w h)
    refine lv_iload_n hx hb dL_law_18 rfl (lv_at hl 0 rfl) ?_
    refine lv_aload_n hx hb dL_law_19 rfl (lv_at hl 3 rfl) ?_
    refine va_slen hx hb hX hbl hbA hS dL_law_20 ?_
    refine lv_topi (fun z_1 ez_1 => ?_)
    obtain rfl : z_1 = 5 := ez_1.trans (by decide +kernel)
    refine lv_bipush (v := 6) hx hb dL_law_21 (by decide +kernel) ?_
    refine lv_isub hx hb dL_law_23 ?_
    refine lv_topi (fun z_2 ez_2 => ?_)
    obtain rfl : z_2 = (-1) := ez_2.trans (by decide +kernel)
    refine lv_icmp_gt (tgt := 1183) hx hb dL_law_24 (by decide) (fun c_3 => ?_) (fun c_3 => absurd (by decide +kernel) c_3)
    refine lv_iconst (v := 1) hx hb dL_law_1183 (by decide +kernel) ?_
    refine va_forget (fun q hq => hA2 _ (hS.2.2 q hq)) ?_
    refine W.widen (k := 600000) (n := 7302250) (Nat.le_of_ble_eq_true rfl) (Nat.le_of_ble_eq_true rfl) ?_
    exact lw_ret hx hb hr hlocks dL_law_1184
  · obtain ⟨hx, hb, hr, hml, hown, hts0, hX, hbl, hlocks, hgv⟩ := id C0
    have hts : ∀ w ∈ wsL_law, w.before #[Value.ref b] s = true := fun w h => hts0 w (wsL_law_in w h)
    refine lv_iload_n hx hb dL_law_18 rfl (lv_at hl 0 rfl) ?_
    refine lv_aload_n hx hb dL_law_19 rfl (lv_at hl 3 rfl) ?_
    refine va_slen hx hb hX hbl hbA hS dL_law_20 ?_
    refine lv_topi (fun z_1 ez_1 => ?_)
    obtain rfl : z_1 = 6 := ez_1.trans (by decide +kernel)
    refine lv_bipush (v := 6) hx hb dL_law_21 (by decide +kernel) ?_
    refine lv_isub hx hb dL_law_23 ?_
    refine lv_topi (fun z_2 ez_2 => ?_)
    obtain rfl : z_2 = 0 := ez_2.trans (by decide +kernel)
    refine lv_icmp_gt (tgt := 1183) hx hb dL_law_24 (by decide) (fun c_3 => absurd c_3 (by decide +kernel)) (fun c_3 => ?_)
    refine lv_aload_n hx hb dL_law_27 rfl (lv_at hl 3 rfl) ?_
    refine lv_iload_n hx hb dL_law_28 rfl (lv_at hl 0 rfl) ?_
    refine va_sld hx hb hX hbl hbA hS (zv_in (by decide +kernel)) dL_law_29 ?_
    refine lv_bipush (v := 63) hx hb dL_law_30 (by decide +kernel) ?_
    refine lv_iand hx hb dL_law_32 ?_
    refine lv_topi (fun x_4 ex_4 => ?_)
    by_cases c_5 : x_4 = 0
    · refine W.eq (g2 := F0 m 33 ls [.int 0]) (by rw [c_5]) ?_
      refine lv_tableIn (tgt := 192) (off := 159) hx hb dL_law_33 (by decide +kernel) (by decide +kernel) (by decide +kernel) (by decide) ?_
      exact law_case0 hA hA2 hbA C0 qx qm ux um H locs hK hP hD hS ls hl
    by_cases c_6 : x_4 = 1
    · refine W.eq (g2 := F0 m 33 ls [.int 1]) (by rw [c_6]) ?_
      refine lv_tableIn (tgt := 255) (off := 222) hx hb dL_law_33 (by decide +kernel) (by decide +kernel) (by decide +kernel) (by decide) ?_
      exact law_case1 hA hA2 hbA C0 qx qm ux um H locs hK hP hD hS ls hl
    by_cases c_7 : x_4 = 2
    · refine W.eq (g2 := F0 m 33 ls [.int 2]) (by rw [c_7]) ?_
      refine lv_tableIn (tgt := 278) (off := 245) hx hb dL_law_33 (by decide +kernel) (by decide +kernel) (by decide +kernel) (by decide) ?_
      exact law_case2 hA hA2 hbA C0 qx qm ux um H locs hK hP hD hS ls hl
    by_cases c_8 : x_4 = 3
    · refine W.eq (g2 := F0 m 33 ls [.int 3]) (by rw [c_8]) ?_
      refine lv_tableIn (tgt := 291) (off := 258) hx hb dL_law_33 (by decide +kernel) (by decide +kernel) (by decide +kernel) (by decide) ?_
      exact law_case3 hA hA2 hbA C0 qx qm ux um H locs hK hP hD hS ls hl
    by_cases c_9 : x_4 = 4
    · refine W.eq (g2 := F0 m 33 ls [.int 4]) (by rw [c_9]) ?_
      refine lv_tableIn (tgt := 314) (off := 281) hx hb dL_law_33 (by decide +kernel) (by decide +kernel) (by decide +kernel) (by decide) ?_
      exact law_case4 hA hA2 hbA C0 qx qm ux um H locs hK hP hD hS ls hl
    by_cases c_10 : x_4 = 5
    · refine W.eq (g2 := F0 m 33 ls [.int 5]) (by rw [c_10]) ?_
      refine lv_tableIn (tgt := 337) (off := 304) hx hb dL_law_33 (by decide +kernel) (by decide +kernel) (by decide +kernel) (by decide) ?_
      exact law_case5 hA hA2 hbA C0 qx qm ux um H locs hK hP hD hS ls hl
    by_cases c_11 : x_4 = 6
    · refine W.eq (g2 := F0 m 33 ls [.int 6]) (by rw [c_11]) ?_
      refine lv_tableIn (tgt := 396) (off := 363) hx hb dL_law_33 (by decide +kernel) (by decide +kernel) (by decide +kernel) (by decide) ?_
      exact law_case6 hA hA2 hbA C0 qx qm ux um H locs hK hP hD hS ls hl
    by_cases c_12 : x_4 = 7
    · refine W.eq (g2 := F0 m 33 ls [.int 7]) (by rw [c_12]) ?_
      refine lv_tableIn (tgt := 429) (off := 396) hx hb dL_law_33 (by decide +kernel) (by decide +kernel) (by decide +kernel) (by decide) ?_
      exact law_case7 hA hA2 hbA C0 qx qm ux um H locs hK hP hD hS ls hl
    by_cases c_13 : x_4 = 8
    · refine W.eq (g2 := F0 m 33 ls [.int 8]) (by rw [c_13]) ?_
      refine lv_tableIn (tgt := 462) (off := 429) hx hb dL_law_33 (by decide +kernel) (by decide +kernel) (by decide +kernel) (by decide) ?_
      exact law_case8 hA hA2 hbA C0 qx qm ux um H locs hK hP hD hS ls hl
    by_cases c_14 : x_4 = 9
    · refine W.eq (g2 := F0 m 33 ls [.int 9]) (by rw [c_14]) ?_
      refine lv_tableIn (tgt := 496) (off := 463) hx hb dL_law_33 (by decide +kernel) (by decide +kernel) (by decide +kernel) (by decide) ?_
      exact law_case9 hA hA2 hbA C0 qx qm ux um H locs hK hP hD hS ls hl
    by_cases c_15 : x_4 = 10
    · refine W.eq (g2 := F0 m 33 ls [.int 10]) (by rw [c_15]) ?_
      refine lv_tableIn (tgt := 546) (off := 513) hx hb dL_law_33 (by decide +kernel) (by decide +kernel) (by decide +kernel) (by decide) ?_
      exact law_case10 hA hA2 hbA C0 qx qm ux um H locs hK hP hD hS ls hl
    by_cases c_16 : x_4 = 11
    · refine W.eq (g2 := F0 m 33 ls [.int 11]) (by rw [c_16]) ?_
      refine lv_tableIn (tgt := 569) (off := 536) hx hb dL_law_33 (by decide +kernel) (by decide +kernel) (by decide +kernel) (by decide) ?_
      exact law_case11 hA hA2 hbA C0 qx qm ux um H locs hK hP hD hS ls hl
    by_cases c_17 : x_4 = 12
    · refine W.eq (g2 := F0 m 33 ls [.int 12]) (by rw [c_17]) ?_
      refine lv_tableIn (tgt := 592) (off := 559) hx hb dL_law_33 (by decide +kernel) (by decide +kernel) (by decide +kernel) (by decide) ?_
      exact law_case12 hA hA2 hbA C0 qx qm ux um H locs hK hP hD hS ls hl
    by_cases c_18 : x_4 = 13
    · refine W.eq (g2 := F0 m 33 ls [.int 13]) (by rw [c_18]) ?_
      refine lv_tableIn (tgt := 615) (off := 582) hx hb dL_law_33 (by decide +kernel) (by decide +kernel) (by decide +kernel) (by decide) ?_
      exact law_case13 hA hA2 hbA C0 qx qm ux um H locs hK hP hD hS ls hl
    by_cases c_19 : x_4 = 14
    · refine W.eq (g2 := F0 m 33 ls [.int 14]) (by rw [c_19]) ?_
      refine lv_tableIn (tgt := 648) (off := 615) hx hb dL_law_33 (by decide +kernel) (by decide +kernel) (by decide +kernel) (by decide) ?_
      exact law_case14 hA hA2 hbA C0 qx qm ux um H locs hK hP hD hS ls hl
    by_cases c_20 : x_4 = 15
    · refine W.eq (g2 := F0 m 33 ls [.int 15]) (by rw [c_20]) ?_
      refine lv_tableIn (tgt := 661) (off := 628) hx hb dL_law_33 (by decide +kernel) (by decide +kernel) (by decide +kernel) (by decide) ?_
      exact law_case15 hA hA2 hbA C0 qx qm ux um H locs hK hP hD hS ls hl
    by_cases c_21 : x_4 = 16
    · refine W.eq (g2 := F0 m 33 ls [.int 16]) (by rw [c_21]) ?_
      refine lv_tableIn (tgt := 674) (off := 641) hx hb dL_law_33 (by decide +kernel) (by decide +kernel) (by decide +kernel) (by decide) ?_
      exact law_case16 hA hA2 hbA C0 qx qm ux um H locs hK hP hD hS ls hl
    by_cases c_22 : x_4 = 17
    · refine W.eq (g2 := F0 m 33 ls [.int 17]) (by rw [c_22]) ?_
      refine lv_tableIn (tgt := 687) (off := 654) hx hb dL_law_33 (by decide +kernel) (by decide +kernel) (by decide +kernel) (by decide) ?_
      exact law_case17 hA hA2 hbA C0 qx qm ux um H locs hK hP hD hS ls hl
    by_cases c_23 : x_4 = 18
    · refine W.eq (g2 := F0 m 33 ls [.int 18]) (by rw [c_23]) ?_
      refine lv_tableIn (tgt := 700) (off := 667) hx hb dL_law_33 (by decide +kernel) (by decide +kernel) (by decide +kernel) (by decide) ?_
      exact law_case18 hA hA2 hbA C0 qx qm ux um H locs hK hP hD hS ls hl
    by_cases c_24 : x_4 = 19
    · refine W.eq (g2 := F0 m 33 ls [.int 19]) (by rw [c_24]) ?_
      refine lv_tableIn (tgt := 724) (off := 691) hx hb dL_law_33 (by decide +kernel) (by decide +kernel) (by decide +kernel) (by decide) ?_
      exact law_case19 hA hA2 hbA C0 qx qm ux um H locs hK hP hD hS ls hl
    by_cases c_25 : x_4 = 20
    · refine W.eq (g2 := F0 m 33 ls [.int 20]) (by rw [c_25]) ?_
      refine lv_tableIn (tgt := 748) (off := 715) hx hb dL_law_33 (by decide +kernel) (by decide +kernel) (by decide +kernel) (by decide) ?_
      exact law_case20 hA hA2 hbA C0 qx qm ux um H locs hK hP hD hS ls hl
    by_cases c_26 : x_4 = 21
    · refine W.eq (g2 := F0 m 33 ls [.int 21]) (by rw [c_26]) ?_
      refine lv_tableIn (tgt := 771) (off := 738) hx hb dL_law_33 (by decide +kernel) (by decide +kernel) (by decide +kernel) (by decide) ?_
      exact law_case21 hA hA2 hbA C0 qx qm ux um H locs hK hP hD hS ls hl
    by_cases c_27 : x_4 = 22
    · refine W.eq (g2 := F0 m 33 ls [.int 22]) (by rw [c_27]) ?_
      refine lv_tableIn (tgt := 805) (off := 772) hx hb dL_law_33 (by decide +kernel) (by decide +kernel) (by decide +kernel) (by decide) ?_
      exact law_case22 hA hA2 hbA C0 qx qm ux um H locs hK hP hD hS ls hl
    by_cases c_28 : x_4 = 23
    · refine W.eq (g2 := F0 m 33 ls [.int 23]) (by rw [c_28]) ?_
      refine lv_tableIn (tgt := 828) (off := 795) hx hb dL_law_33 (by decide +kernel) (by decide +kernel) (by decide +kernel) (by decide) ?_
      exact law_case23 hA hA2 hbA C0 qx qm ux um H locs hK hP hD hS ls hl
    by_cases c_29 : x_4 = 24
    · refine W.eq (g2 := F0 m 33 ls [.int 24]) (by rw [c_29]) ?_
      refine lv_tableIn (tgt := 841) (off := 808) hx hb dL_law_33 (by decide +kernel) (by decide +kernel) (by decide +kernel) (by decide) ?_
      exact law_case24 hA hA2 hbA C0 qx qm ux um H locs hK hP hD hS ls hl
    by_cases c_30 : x_4 = 25
    · refine W.eq (g2 := F0 m 33 ls [.int 25]) (by rw [c_30]) ?_
      refine lv_tableIn (tgt := 864) (off := 831) hx hb dL_law_33 (by decide +kernel) (by decide +kernel) (by decide +kernel) (by decide) ?_
      exact law_case25 hA hA2 hbA C0 qx qm ux um H locs hK hP hD hS ls hl
    by_cases c_31 : x_4 = 26
    · refine W.eq (g2 := F0 m 33 ls [.int 26]) (by rw [c_31]) ?_
      refine lv_tableIn (tgt := 887) (off := 854) hx hb dL_law_33 (by decide +kernel) (by decide +kernel) (by decide +kernel) (by decide) ?_
      exact law_case26 hA hA2 hbA C0 qx qm ux um H locs hK hP hD hS ls hl
    by_cases c_32 : x_4 = 27
    · refine W.eq (g2 := F0 m 33 ls [.int 27]) (by rw [c_32]) ?_
      refine lv_tableIn (tgt := 910) (off := 877) hx hb dL_law_33 (by decide +kernel) (by decide +kernel) (by decide +kernel) (by decide) ?_
      exact law_case27 hA hA2 hbA C0 qx qm ux um H locs hK hP hD hS ls hl
    by_cases c_33 : x_4 = 28
    · refine W.eq (g2 := F0 m 33 ls [.int 28]) (by rw [c_33]) ?_
      refine lv_tableIn (tgt := 954) (off := 921) hx hb dL_law_33 (by decide +kernel) (by decide +kernel) (by decide +kernel) (by decide) ?_
      exact law_case28 hA hA2 hbA C0 qx qm ux um H locs hK hP hD hS ls hl
    by_cases c_34 : x_4 = 29
    · refine W.eq (g2 := F0 m 33 ls [.int 29]) (by rw [c_34]) ?_
      refine lv_tableIn (tgt := 988) (off := 955) hx hb dL_law_33 (by decide +kernel) (by decide +kernel) (by decide +kernel) (by decide) ?_
      exact law_case29 hA hA2 hbA C0 qx qm ux um H locs hK hP hD hS ls hl
    by_cases c_35 : x_4 = 30
    · refine W.eq (g2 := F0 m 33 ls [.int 30]) (by rw [c_35]) ?_
      refine lv_tableIn (tgt := 1011) (off := 978) hx hb dL_law_33 (by decide +kernel) (by decide +kernel) (by decide +kernel) (by decide) ?_
      exact law_case30 hA hA2 hbA C0 qx qm ux um H locs hK hP hD hS ls hl
    by_cases c_36 : x_4 = 31
    · refine W.eq (g2 := F0 m 33 ls [.int 31]) (by rw [c_36]) ?_
      refine lv_tableIn (tgt := 1024) (off := 991) hx hb dL_law_33 (by decide +kernel) (by decide +kernel) (by decide +kernel) (by decide) ?_
      exact law_case31 hA hA2 hbA C0 qx qm ux um H locs hK hP hD hS ls hl
    by_cases c_37 : x_4 = 32
    · refine W.eq (g2 := F0 m 33 ls [.int 32]) (by rw [c_37]) ?_
      refine lv_tableIn (tgt := 1047) (off := 1014) hx hb dL_law_33 (by decide +kernel) (by decide +kernel) (by decide +kernel) (by decide) ?_
      exact law_case32 hA hA2 hbA C0 qx qm ux um H locs hK hP hD hS ls hl
    by_cases c_38 : x_4 = 33
    · refine W.eq (g2 := F0 m 33 ls [.int 33]) (by rw [c_38]) ?_
      refine lv_tableIn (tgt := 1081) (off := 1048) hx hb dL_law_33 (by decide +kernel) (by decide +kernel) (by decide +kernel) (by decide) ?_
      exact law_case33 hA hA2 hbA C0 qx qm ux um H locs hK hP hD hS ls hl
    by_cases c_39 : x_4 = 34
    · refine W.eq (g2 := F0 m 33 ls [.int 34]) (by rw [c_39]) ?_
      refine lv_tableIn (tgt := 1131) (off := 1098) hx hb dL_law_33 (by decide +kernel) (by decide +kernel) (by decide +kernel) (by decide) ?_
      exact law_case34 hA hA2 hbA C0 qx qm ux um H locs hK hP hD hS ls hl
    by_cases c_40 : x_4 = 35
    · refine W.eq (g2 := F0 m 33 ls [.int 35]) (by rw [c_40]) ?_
      refine lv_tableIn (tgt := 1154) (off := 1121) hx hb dL_law_33 (by decide +kernel) (by decide +kernel) (by decide +kernel) (by decide) ?_
      exact law_case35 hA hA2 hbA C0 qx qm ux um H locs hK hP hD hS ls hl
    refine lv_tableOut (tgt := 1177) hx hb dL_law_33 (by have oc_5 := zi_ne c_5; have kI0 : (0 : Int32).toInt = 0 := (by decide +kernel); have oc_6 := zi_ne c_6; have kI1 : (1 : Int32).toInt = 1 := (by decide +kernel); have oc_7 := zi_ne c_7; have kI2 : (2 : Int32).toInt = 2 := (by decide +kernel); have oc_8 := zi_ne c_8; have kI3 : (3 : Int32).toInt = 3 := (by decide +kernel); have oc_9 := zi_ne c_9; have kI4 : (4 : Int32).toInt = 4 := (by decide +kernel); have oc_10 := zi_ne c_10; have kI5 : (5 : Int32).toInt = 5 := (by decide +kernel); have oc_11 := zi_ne c_11; have kI6 : (6 : Int32).toInt = 6 := (by decide +kernel); have oc_12 := zi_ne c_12; have kI7 : (7 : Int32).toInt = 7 := (by decide +kernel); have oc_13 := zi_ne c_13; have kI8 : (8 : Int32).toInt = 8 := (by decide +kernel); have oc_14 := zi_ne c_14; have kI9 : (9 : Int32).toInt = 9 := (by decide +kernel); have oc_15 := zi_ne c_15; have kI10 : (10 : Int32).toInt = 10 := (by decide +kernel); have oc_16 := zi_ne c_16; have kI11 : (11 : Int32).toInt = 11 := (by decide +kernel); have oc_17 := zi_ne c_17; have kI12 : (12 : Int32).toInt = 12 := (by decide +kernel); have oc_18 := zi_ne c_18; have kI13 : (13 : Int32).toInt = 13 := (by decide +kernel); have oc_19 := zi_ne c_19; have kI14 : (14 : Int32).toInt = 14 := (by decide +kernel); have oc_20 := zi_ne c_20; have kI15 : (15 : Int32).toInt = 15 := (by decide +kernel); have oc_21 := zi_ne c_21; have kI16 : (16 : Int32).toInt = 16 := (by decide +kernel); have oc_22 := zi_ne c_22; have kI17 : (17 : Int32).toInt = 17 := (by decide +kernel); have oc_23 := zi_ne c_23; have kI18 : (18 : Int32).toInt = 18 := (by decide +kernel); have oc_24 := zi_ne c_24; have kI19 : (19 : Int32).toInt = 19 := (by decide +kernel); have oc_25 := zi_ne c_25; have kI20 : (20 : Int32).toInt = 20 := (by decide +kernel); have oc_26 := zi_ne c_26; have kI21 : (21 : Int32).toInt = 21 := (by decide +kernel); have oc_27 := zi_ne c_27; have kI22 : (22 : Int32).toInt = 22 := (by decide +kernel); have oc_28 := zi_ne c_28; have kI23 : (23 : Int32).toInt = 23 := (by decide +kernel); have oc_29 := zi_ne c_29; have kI24 : (24 : Int32).toInt = 24 := (by decide +kernel); have oc_30 := zi_ne c_30; have kI25 : (25 : Int32).toInt = 25 := (by decide +kernel); have oc_31 := zi_ne c_31; have kI26 : (26 : Int32).toInt = 26 := (by decide +kernel); have oc_32 := zi_ne c_32; have kI27 : (27 : Int32).toInt = 27 := (by decide +kernel); have oc_33 := zi_ne c_33; have kI28 : (28 : Int32).toInt = 28 := (by decide +kernel); have oc_34 := zi_ne c_34; have kI29 : (29 : Int32).toInt = 29 := (by decide +kernel); have oc_35 := zi_ne c_35; have kI30 : (30 : Int32).toInt = 30 := (by decide +kernel); have oc_36 := zi_ne c_36; have kI31 : (31 : Int32).toInt = 31 := (by decide +kernel); have oc_37 := zi_ne c_37; have kI32 : (32 : Int32).toInt = 32 := (by decide +kernel); have oc_38 := zi_ne c_38; have kI33 : (33 : Int32).toInt = 33 := (by decide +kernel); have oc_39 := zi_ne c_39; have kI34 : (34 : Int32).toInt = 34 := (by decide +kernel); have oc_40 := zi_ne c_40; have kI35 : (35 : Int32).toInt = 35 := (by decide +kernel); omega) (by decide) ?_
    exact law_tail (dC := dC) (dI := dI) hA hA2 hbA C0 qx qm H locs hS ls hl
set_option maxHeartbeats 4000000 in
set_option maxRecDepth 100000 in
theorem whole_start {p : Program} {e : Env} {s : State} {m : MethodId} {below : List Frame} {meth : Method} {c : Code} (l : Launch) (hflags : l.flags = flags0) {b L : Nat} {xs : Nat → Int32} (hL : L ≤ 6) (C0 : lw_At p s m meth c b L xs) : W p l e room_1 s m #[Value.ref b] below meth c s.heap [] 0 0 (lw_Z below #[Value.ref b] s) (entryFrame m ([Value.ref b] : List Value).toArray 4) := by
  obtain ⟨hx, hb, hr, hml, hown, hts0, hX, hbl, hlocks, hgv⟩ := id C0
  have hts : ∀ w ∈ wsL_law, w.before #[Value.ref b] s = true := fun w h => hts0 w (wsL_law_in w h)
  obtain ⟨e0, i0, hKn0⟩ := u_known (C := RX0) (T := TX0) (N := 5) (n := 5) hts0 inX0 (hts (.instantiable RX0 5) zw_L_law_574)
  obtain ⟨e1, i1, hKn1⟩ := u_known (C := RX1) (T := TX1) (N := 14) (n := 14) hts0 inX1 (hts (.instantiable RX1 14) zw_L_law_575)
  obtain ⟨e2, i2, hKn2⟩ := u_known (C := RX2) (T := TX2) (N := 6) (n := 6) hts0 inX2 (hts (.instantiable RX2 6) zw_L_law_576)
  obtain ⟨e3, i3, hKn3⟩ := u_known (C := RX3) (T := TX3) (N := 16) (n := 16) hts0 inX3 (hts (.instantiable RX3 16) zw_L_law_577)
  obtain ⟨e4, i4, hKn4⟩ := u_known (C := RX4) (T := TX4) (N := 10) (n := 10) hts0 inX4 (hts (.instantiable RX4 10) zw_L_law_578)
  obtain ⟨e5, i5, hKn5⟩ := u_known (C := RX5) (T := TX5) (N := 4) (n := 4) hts0 inX5 (hts (.instantiable RX5 4) zw_L_law_579)
  obtain ⟨e6, i6, hKn6⟩ := u_known (C := RX6) (T := TX6) (N := 3) (n := 3) hts0 inX6 (hts (.instantiable RX6 3) zw_L_law_580)
  obtain ⟨e7, i7, hKn7⟩ := u_known (C := RX7) (T := TX7) (N := 3) (n := 3) hts0 inX7 (hts (.instantiable RX7 3) zw_L_law_581)
  obtain ⟨e8, i8, hKn8⟩ := u_known (C := RX8) (T := TX8) (N := 2) (n := 2) hts0 inX8 (hts (.instantiable RX8 2) zw_L_law_582)
  obtain ⟨e9, i9, hKn9⟩ := u_known (C := RX9) (T := TX9) (N := 9) (n := 9) hts0 inX9 (hts (.instantiable RX9 9) zw_L_law_583)
  obtain ⟨e10, i10, hKn10⟩ := u_known (C := RX10) (T := TX10) (N := 8) (n := 8) hts0 inX10 (hts (.instantiable RX10 8) zw_L_law_584)
  obtain ⟨e11, i11, hKn11⟩ := u_known (C := RX11) (T := TX11) (N := 16) (n := 16) hts0 inX11 (hts (.instantiable RX11 16) zw_L_law_565)
  obtain ⟨e12, i12, hKn12⟩ := u_known (C := RX12) (T := TX12) (N := 67) (n := 67) hts0 inX12 (hts (.instantiable RX12 67) zw_L_law_570)
  obtain ⟨dC, dI, hKc⟩ : ∃ (dC : Nat → ClassId) (dI : Nat → Nat → Nat), ∀ (k : Nat) (q : vw_C), vwCl[k]? = some q → u_Kn s q.1 q.2.1 q.2.2 (dC k) (dI k) := by
    refine ⟨fun k => ([e0, e1, e2, e3, e4, e5, e6, e7, e8, e9, e10, e11, e12] : List ClassId).getD k 0, fun k => ([i0, i1, i2, i3, i4, i5, i6, i7, i8, i9, i10, i11, i12] : List (Nat → Nat)).getD k (fun _ => 0), ?_⟩
    intro k q hq
    match k, hq with
    | 0, hq => cases hq; exact hKn0
    | 1, hq => cases hq; exact hKn1
    | 2, hq => cases hq; exact hKn2
    | 3, hq => cases hq; exact hKn3
    | 4, hq => cases hq; exact hKn4
    | 5, hq => cases hq; exact hKn5
    | 6, hq => cases hq; exact hKn6
    | 7, hq => cases hq; exact hKn7
    | 8, hq => cases hq; exact hKn8
    | 9, hq => cases hq; exact hKn9
    | 10, hq => cases hq; exact hKn10
    | 11, hq => cases hq; exact hKn11
    | 12, hq => cases hq; exact hKn12
    | k + 13, hq => simp [vwCl] at hq
  obtain ⟨A, hAe⟩ : ∃ A : Nat → Prop, A = fun q : Nat => s.heap.size ≤ q := ⟨_, rfl⟩
  have hA : ∀ q : Nat, s.heap.size ≤ q → A q := fun q h => by rw [hAe]; exact h
  have hA2 : ∀ q : Nat, A q → s.heap.size ≤ q := fun q h => by rw [hAe] at h; exact h
  have hbA : ¬ A b := fun h => absurd (hA2 b h) (Nat.not_le.mpr hbl)
  have hS : va_S A s.heap s.heap [] := va_S.rf
  have hK : va_K (dC, dI) vwCl [] s := ⟨hKc, fun k q h => by simp at h⟩
  have hP : va_P (dC, dI) vwCl [] s.heap := fun k q h => by simp at h
  have hD : va_D A [] := ⟨fun i j p q h => by simp at h, fun k q h => by simp at h⟩
  obtain ⟨adK, adV, hzf⟩ := zF_of hts0 hgv (fun a h q => absurd (hA2 a q) (Nat.not_le.mpr h))
  have hn0 : va_Nw (.methodLinkNest RX11 19 yX5_init RX11) s := va_Nw.of rfl (hts0 _ (List.mem_append_right _ zw_nest_0))
  have hn2 : va_Nw (.methodLinkNest RX11 26 yX9_init RX11) s := va_Nw.of rfl (hts0 _ (List.mem_append_right _ zw_nest_1))
  have hn3 : va_Nw (.methodLinkNest RX9 26 yX4_init RX11) s := va_Nw.of rfl (hts0 _ (List.mem_append_right _ zw_nest_2))
  have hn4 : va_Nw (.methodLinkNest RX9 33 yX2_init RX11) s := va_Nw.of rfl (hts0 _ (List.mem_append_right _ zw_nest_3))
  have hn5 : va_Nw (.methodLinkNest RX9 40 yX6_init RX11) s := va_Nw.of rfl (hts0 _ (List.mem_append_right _ zw_nest_4))
  have hn6 : va_Nw (.methodLinkNest RX11 42 yX7_init RX11) s := va_Nw.of rfl (hts0 _ (List.mem_append_right _ zw_nest_5))
  have hn7 : va_Nw (.methodLinkNest RX11 52 yX6_init RX11) s := va_Nw.of rfl (hts0 _ (List.mem_append_right _ zw_nest_6))
  have hn8 : va_Nw (.methodLinkNest RX11 59 yX1_init RX11) s := va_Nw.of rfl (hts0 _ (List.mem_append_right _ zw_nest_7))
  have hn9 : va_Nw (.methodLinkNest RX1 11 yX7_init RX11) s := va_Nw.of rfl (hts0 _ (List.mem_append_right _ zw_nest_8))
  have hn10 : va_Nw (.methodLinkNest RX11 66 yX3_init RX11) s := va_Nw.of rfl (hts0 _ (List.mem_append_right _ zw_nest_9))
  have hn11 : va_Nw (.methodLinkNest RX3 11 yX7_init RX11) s := va_Nw.of rfl (hts0 _ (List.mem_append_right _ zw_nest_10))
  have hn12 : va_Nw (.methodLinkNest RX11 73 yX0_init RX11) s := va_Nw.of rfl (hts0 _ (List.mem_append_right _ zw_nest_11))
  have hn13 : va_Nw (.methodLinkNest RX0 11 yX6_init RX11) s := va_Nw.of rfl (hts0 _ (List.mem_append_right _ zw_nest_12))
  have hn14 : va_Nw (.methodLinkNest RX0 20 yX7_init RX11) s := va_Nw.of rfl (hts0 _ (List.mem_append_right _ zw_nest_13))
  have hn15 : va_Nw (.methodLinkNest RX11 80 yX8_init RX11) s := va_Nw.of rfl (hts0 _ (List.mem_append_right _ zw_nest_14))
  have hl := lv_entry ([.ref b]) (n := 4) (Nat.le_of_ble_eq_true rfl)
  rw [lg_entry_eq]
  generalize (lg_sl ([.ref b]) ++ List.replicate (4 - (lg_sl ([.ref b])).length) Slot.unset).toArray = ls at hl ⊢
  have hl : lv_has ls 4 [(0, .ref b)] := hl
  refine va_new (ci := 11) (fs := [.null, .int 0, .null, .null, .null, .null, .null, .null, .null, .null, .null, .null, .null, .null, .null, .int 0]) (C := RX11) (T := TX11) (N := 16) hx hb hts inlX11 tyX11 tyX11_ok hown (hts (.classLink RL 7 RX11) zw_L_law_564) (hts (.instantiable RX11 16) zw_L_law_565) (hts (.initialized RX11) zw_L_law_566) hK hP hD hS hA rfl zd_X11 (Nat.le_of_ble_eq_true rfl) (Nat.le_of_ble_eq_true rfl) dL_law_0 (fun q_1 H hP hD hS => ?_)
  have hP : va_P (dC, dI) vwCl [(q_1, .inr (11, [.null, .int 0, .null, .null, .null, .null, .null, .null, .null, .null, .null, .null, .null, .null, .null, .int 0]))] H := hP
  have hD : va_D A [(q_1, .inr (11, [.null, .int 0, .null, .null, .null, .null, .null, .null, .null, .null, .null, .null, .null, .null, .null, .int 0]))] := hD
  refine W.widen (k := 1) (n := 16) (Nat.le_of_ble_eq_true rfl) (Nat.le_of_ble_eq_true rfl) ?_
  refine lv_dup hx hb dL_law_3 rfl ?_
  have hPc := hP.sub (ws' := [(q_1, .inr (11, [.null, .int 0, .null, .null, .null, .null, .null, .null, .null, .null, .null, .null, .null, .null, .null, .int 0]))]) [0] rfl
  have hDc := hD.sub (ws' := [(q_1, .inr (11, [.null, .int 0, .null, .null, .null, .null, .null, .null, .null, .null, .null, .null, .null, .null, .null, .int 0]))]) [0] (by decide) rfl
  have hKc := hK.sub (tys' := []) [] rfl
  have hFc := va_free (wc := [(q_1, .inr (11, [.null, .int 0, .null, .null, .null, .null, .null, .null, .null, .null, .null, .null, .null, .null, .null, .int 0]))]) hD hS hA [0] rfl
  refine va_callv (va_runI (As := []) (rest := [.ref q_1]) ⟨hx, hb, hml, hown, hts⟩ (zc18_X11_init l dC dI adK adV q_1 H.size) (cwI 0 hts gL_law_X11_init rfl rfl rfl (hts (.initialized RX11) zw_L_law_566) (hts (.methodLink RL 9 yX11_init) zw_L_law_567) (hts (.instanceMethod yX11_init) zw_L_law_568) rfl (by decide +kernel) ⟨Nat.le_of_ble_eq_true rfl, Nat.le_of_ble_eq_true rfl⟩) ⟨fun a U g mk q => by obtain ⟨q0, n0, n1, n2, n3, n4, n5, n6, n7, n8, n9, n10, n11, n12, n13, n14, n15, q1, qP, qK, qD⟩ := q; exact ⟨q0, va_Nw.same rfl rfl n0, zF_blind n1, va_Nw.same rfl rfl n2, va_Nw.same rfl rfl n3, va_Nw.same rfl rfl n4, va_Nw.same rfl rfl n5, va_Nw.same rfl rfl n6, va_Nw.same rfl rfl n7, va_Nw.same rfl rfl n8, va_Nw.same rfl rfl n9, va_Nw.same rfl rfl n10, va_Nw.same rfl rfl n11, va_Nw.same rfl rfl n12, va_Nw.same rfl rfl n13, va_Nw.same rfl rfl n14, va_Nw.same rfl rfl n15, q1, qP, va_K.moved (u := U) (U := U.calling g mk a) (Vm.Alike.refl U.vm) qK, qD⟩, fun U hU hW => ⟨rfl, va_Nw.warmM hW hn0, zF_to hzf hS hFc hW hU, va_Nw.warmM hW hn2, va_Nw.warmM hW hn3, va_Nw.warmM hW hn4, va_Nw.warmM hW hn5, va_Nw.warmM hW hn6, va_Nw.warmM hW hn7, va_Nw.warmM hW hn8, va_Nw.warmM hW hn9, va_Nw.warmM hW hn10, va_Nw.warmM hW hn11, va_Nw.warmM hW hn12, va_Nw.warmM hW hn13, va_Nw.warmM hW hn14, va_Nw.warmM hW hn15, by rw [hU], by rw [hU]; exact hPc, va_K.moved hW.alike hKc, hDc.weaken (fun _ _ _ _ => trivial)⟩⟩ rfl rfl hl.1 rfl (lv_room (Nat.le_of_ble_eq_true rfl)) dL_law_4 ⟨Nat.le_of_ble_eq_true rfl, Nat.le_of_ble_eq_true rfl⟩) hS (fun q _ h => hFc q h) hFc (fun u_3 t H1 locs ht hvm hw_4 hB hz1 hk1 hS => ?_)
  obtain ⟨hP1, hK1, hD1⟩ := hB
  rw [ht] at hP1
  have hK1 := va_K.moved hvm.symm hK1
  obtain ⟨hP, hD⟩ := va_join (wr := []) (w1 := [(q_1, .inr (11, [.ref (u_3.1 0), .int 0, .ref (u_3.1 1), .ref (u_3.1 2), .ref (u_3.1 3), .ref (u_3.1 4), .ref (u_3.1 5), .ref (u_3.1 6), .ref (u_3.1 7), .ref (u_3.1 8), .ref (u_3.1 9), .ref (u_3.1 10), .ref (u_3.1 11), .ref (u_3.1 12), .ref (u_3.1 13), .int 1])), ((u_3.1 0), .inl ((u_3.1 14), 1200, .inl (fun _ => 0))), ((u_3.1 1), .inl ((u_3.1 15), 5, .inl (fun _ => 0))), ((u_3.1 2), .inr (5, [.ref (u_3.1 16), .int 0, .int 0, .int (-1)])), ((u_3.1 16), .inr (10, [.ref (u_3.1 17), .ref (u_3.1 18), .int 0, .int 0, .int 0, .int 0, .int 0, .int 0])), ((u_3.1 3), .inr (9, [.int 0, .ref (u_3.1 19), .ref (u_3.1 20), .ref (u_3.1 21), .ref (u_3.1 22), .int 0, .ref (u_3.1 23), .ref (u_3.1 24), .ref (u_3.1 25)])), ((u_3.1 23), .inr (4, [.int 0, .int 0, .ref (u_3.1 26), .ref (u_3.1 27), .ref (u_3.1 28), .ref (u_3.1 29), .ref (u_3.1 30), .ref (u_3.1 31), .ref (u_3.1 32), .ref (u_3.1 33)])), ((u_3.1 24), .inr (2, [.int 0, .int 0, .int 0, .ref (u_3.1 34), .ref (u_3.1 35), .ref (u_3.1 36)])), ((u_3.1 4), .inr (9, [.int 0, .ref (u_3.1 37), .ref (u_3.1 38), .ref (u_3.1 39), .ref (u_3.1 40), .int 0, .ref (u_3.1 41), .ref (u_3.1 42), .ref (u_3.1 43)])), ((u_3.1 41), .inr (4, [.int 0, .int 0, .ref (u_3.1 44), .ref (u_3.1 45), .ref (u_3.1 46), .ref (u_3.1 47), .ref (u_3.1 48), .ref (u_3.1 49), .ref (u_3.1 50), .ref (u_3.1 51)])), ((u_3.1 42), .inr (2, [.int 0, .int 0, .int 0, .ref (u_3.1 52), .ref (u_3.1 53), .ref (u_3.1 54)])), ((u_3.1 10), .inr (1, [.ref (u_3.1 55), .ref (u_3.1 56), .int 0, .int 0, .ref (u_3.1 57), .ref (u_3.1 58), .int 0, .int (-1), .int 0, .int (-1), .int 0, .ref (u_3.1 59), .ref (u_3.1 60), .ref (u_3.1 61)])), ((u_3.1 11), .inr (3, [.ref (u_3.1 62), .ref (u_3.1 63), .int 0, .int 0, .ref (u_3.1 64), .ref (u_3.1 65), .ref (u_3.1 66), .ref (u_3.1 67), .int 0, .ref (u_3.1 68), .int 0, .int 0, .int 0, .int 0, .int (-1), .int (-1)])), ((u_3.1 12), .inr (0, [.ref (u_3.1 69), .ref (u_3.1 70), .ref (u_3.1 71), .int (-1), .int (-1)]))]) hP hD [0] [] rfl rfl (by decide) (by decide) hk1 hFc hP1 hD1
  have hK := hK.app hK1
  generalize H1 = H at hP hS ⊢
  have hP : va_P (dC, dI) vwCl [(q_1, .inr (11, [.ref (u_3.1 0), .int 0, .ref (u_3.1 1), .ref (u_3.1 2), .ref (u_3.1 3), .ref (u_3.1 4), .ref (u_3.1 5), .ref (u_3.1 6), .ref (u_3.1 7), .ref (u_3.1 8), .ref (u_3.1 9), .ref (u_3.1 10), .ref (u_3.1 11), .ref (u_3.1 12), .ref (u_3.1 13), .int 1])), ((u_3.1 0), .inl ((u_3.1 14), 1200, .inl (fun _ => 0))), ((u_3.1 1), .inl ((u_3.1 15), 5, .inl (fun _ => 0))), ((u_3.1 2), .inr (5, [.ref (u_3.1 16), .int 0, .int 0, .int (-1)])), ((u_3.1 16), .inr (10, [.ref (u_3.1 17), .ref (u_3.1 18), .int 0, .int 0, .int 0, .int 0, .int 0, .int 0])), ((u_3.1 3), .inr (9, [.int 0, .ref (u_3.1 19), .ref (u_3.1 20), .ref (u_3.1 21), .ref (u_3.1 22), .int 0, .ref (u_3.1 23), .ref (u_3.1 24), .ref (u_3.1 25)])), ((u_3.1 23), .inr (4, [.int 0, .int 0, .ref (u_3.1 26), .ref (u_3.1 27), .ref (u_3.1 28), .ref (u_3.1 29), .ref (u_3.1 30), .ref (u_3.1 31), .ref (u_3.1 32), .ref (u_3.1 33)])), ((u_3.1 24), .inr (2, [.int 0, .int 0, .int 0, .ref (u_3.1 34), .ref (u_3.1 35), .ref (u_3.1 36)])), ((u_3.1 4), .inr (9, [.int 0, .ref (u_3.1 37), .ref (u_3.1 38), .ref (u_3.1 39), .ref (u_3.1 40), .int 0, .ref (u_3.1 41), .ref (u_3.1 42), .ref (u_3.1 43)])), ((u_3.1 41), .inr (4, [.int 0, .int 0, .ref (u_3.1 44), .ref (u_3.1 45), .ref (u_3.1 46), .ref (u_3.1 47), .ref (u_3.1 48), .ref (u_3.1 49), .ref (u_3.1 50), .ref (u_3.1 51)])), ((u_3.1 42), .inr (2, [.int 0, .int 0, .int 0, .ref (u_3.1 52), .ref (u_3.1 53), .ref (u_3.1 54)])), ((u_3.1 10), .inr (1, [.ref (u_3.1 55), .ref (u_3.1 56), .int 0, .int 0, .ref (u_3.1 57), .ref (u_3.1 58), .int 0, .int (-1), .int 0, .int (-1), .int 0, .ref (u_3.1 59), .ref (u_3.1 60), .ref (u_3.1 61)])), ((u_3.1 11), .inr (3, [.ref (u_3.1 62), .ref (u_3.1 63), .int 0, .int 0, .ref (u_3.1 64), .ref (u_3.1 65), .ref (u_3.1 66), .ref (u_3.1 67), .int 0, .ref (u_3.1 68), .int 0, .int 0, .int 0, .int 0, .int (-1), .int (-1)])), ((u_3.1 12), .inr (0, [.ref (u_3.1 69), .ref (u_3.1 70), .ref (u_3.1 71), .int (-1), .int (-1)]))] H := hP
  have hD : va_D A [(q_1, .inr (11, [.ref (u_3.1 0), .int 0, .ref (u_3.1 1), .ref (u_3.1 2), .ref (u_3.1 3), .ref (u_3.1 4), .ref (u_3.1 5), .ref (u_3.1 6), .ref (u_3.1 7), .ref (u_3.1 8), .ref (u_3.1 9), .ref (u_3.1 10), .ref (u_3.1 11), .ref (u_3.1 12), .ref (u_3.1 13), .int 1])), ((u_3.1 0), .inl ((u_3.1 14), 1200, .inl (fun _ => 0))), ((u_3.1 1), .inl ((u_3.1 15), 5, .inl (fun _ => 0))), ((u_3.1 2), .inr (5, [.ref (u_3.1 16), .int 0, .int 0, .int (-1)])), ((u_3.1 16), .inr (10, [.ref (u_3.1 17), .ref (u_3.1 18), .int 0, .int 0, .int 0, .int 0, .int 0, .int 0])), ((u_3.1 3), .inr (9, [.int 0, .ref (u_3.1 19), .ref (u_3.1 20), .ref (u_3.1 21), .ref (u_3.1 22), .int 0, .ref (u_3.1 23), .ref (u_3.1 24), .ref (u_3.1 25)])), ((u_3.1 23), .inr (4, [.int 0, .int 0, .ref (u_3.1 26), .ref (u_3.1 27), .ref (u_3.1 28), .ref (u_3.1 29), .ref (u_3.1 30), .ref (u_3.1 31), .ref (u_3.1 32), .ref (u_3.1 33)])), ((u_3.1 24), .inr (2, [.int 0, .int 0, .int 0, .ref (u_3.1 34), .ref (u_3.1 35), .ref (u_3.1 36)])), ((u_3.1 4), .inr (9, [.int 0, .ref (u_3.1 37), .ref (u_3.1 38), .ref (u_3.1 39), .ref (u_3.1 40), .int 0, .ref (u_3.1 41), .ref (u_3.1 42), .ref (u_3.1 43)])), ((u_3.1 41), .inr (4, [.int 0, .int 0, .ref (u_3.1 44), .ref (u_3.1 45), .ref (u_3.1 46), .ref (u_3.1 47), .ref (u_3.1 48), .ref (u_3.1 49), .ref (u_3.1 50), .ref (u_3.1 51)])), ((u_3.1 42), .inr (2, [.int 0, .int 0, .int 0, .ref (u_3.1 52), .ref (u_3.1 53), .ref (u_3.1 54)])), ((u_3.1 10), .inr (1, [.ref (u_3.1 55), .ref (u_3.1 56), .int 0, .int 0, .ref (u_3.1 57), .ref (u_3.1 58), .int 0, .int (-1), .int 0, .int (-1), .int 0, .ref (u_3.1 59), .ref (u_3.1 60), .ref (u_3.1 61)])), ((u_3.1 11), .inr (3, [.ref (u_3.1 62), .ref (u_3.1 63), .int 0, .int 0, .ref (u_3.1 64), .ref (u_3.1 65), .ref (u_3.1 66), .ref (u_3.1 67), .int 0, .ref (u_3.1 68), .int 0, .int 0, .int 0, .int 0, .int (-1), .int (-1)])), ((u_3.1 12), .inr (0, [.ref (u_3.1 69), .ref (u_3.1 70), .ref (u_3.1 71), .int (-1), .int (-1)]))] := hD
  have hK : va_K (dC, dI) vwCl [((u_3.1 14), .byte), ((u_3.1 15), .int)] s := hK
  refine W.widen (k := 90) (n := 2190) (Nat.le_of_ble_eq_true rfl) (Nat.le_of_ble_eq_true rfl) ?_
  refine lv_astore_n (lv' := [(1, .ref q_1), (0, .ref b)]) hx hb dL_law_7 rfl hl (by decide) rfl (fun ls hl => ?_)
  refine va_new (ci := 12) (fs := [.null, .int 0, .null, .int 0, .int 0, .int 0, .int 0, .int 0, .int 0, .int 0, .null, .int 0, .null, .null, .null, .null, .null, .null, .null, .null, .null, .null, .null, .null, .null, .null, .null, .null, .long 0, .null, .int 0, .null, .null, .int 0, .long 0, .null, .null, .null, .int 0, .null, .null, .int 0, .int 0, .null, .int 0, .int 0, .null, .null, .null, .null, .int 0, .int 0, .int 0, .int 0, .null, .null, .null, .int 0, .int 0, .int 0, .null, .null, .null, .null, .int 0, .null, .null]) (C := RX12) (T := TX12) (N := 67) hx hb hts inlX12 tyX12 tyX12_ok hown (hts (.classLink RL 10 RX12) zw_L_law_569) (hts (.instantiable RX12 67) zw_L_law_570) (hts (.initialized RX12) zw_L_law_571) hK hP hD hS hA rfl zd_X12 (Nat.le_of_ble_eq_true rfl) (Nat.le_of_ble_eq_true rfl) dL_law_8 (fun q_5 H hP hD hS => ?_)
  have hP : va_P (dC, dI) vwCl [(q_1, .inr (11, [.ref (u_3.1 0), .int 0, .ref (u_3.1 1), .ref (u_3.1 2), .ref (u_3.1 3), .ref (u_3.1 4), .ref (u_3.1 5), .ref (u_3.1 6), .ref (u_3.1 7), .ref (u_3.1 8), .ref (u_3.1 9), .ref (u_3.1 10), .ref (u_3.1 11), .ref (u_3.1 12), .ref (u_3.1 13), .int 1])), ((u_3.1 0), .inl ((u_3.1 14), 1200, .inl (fun _ => 0))), ((u_3.1 1), .inl ((u_3.1 15), 5, .inl (fun _ => 0))), ((u_3.1 2), .inr (5, [.ref (u_3.1 16), .int 0, .int 0, .int (-1)])), ((u_3.1 16), .inr (10, [.ref (u_3.1 17), .ref (u_3.1 18), .int 0, .int 0, .int 0, .int 0, .int 0, .int 0])), ((u_3.1 3), .inr (9, [.int 0, .ref (u_3.1 19), .ref (u_3.1 20), .ref (u_3.1 21), .ref (u_3.1 22), .int 0, .ref (u_3.1 23), .ref (u_3.1 24), .ref (u_3.1 25)])), ((u_3.1 23), .inr (4, [.int 0, .int 0, .ref (u_3.1 26), .ref (u_3.1 27), .ref (u_3.1 28), .ref (u_3.1 29), .ref (u_3.1 30), .ref (u_3.1 31), .ref (u_3.1 32), .ref (u_3.1 33)])), ((u_3.1 24), .inr (2, [.int 0, .int 0, .int 0, .ref (u_3.1 34), .ref (u_3.1 35), .ref (u_3.1 36)])), ((u_3.1 4), .inr (9, [.int 0, .ref (u_3.1 37), .ref (u_3.1 38), .ref (u_3.1 39), .ref (u_3.1 40), .int 0, .ref (u_3.1 41), .ref (u_3.1 42), .ref (u_3.1 43)])), ((u_3.1 41), .inr (4, [.int 0, .int 0, .ref (u_3.1 44), .ref (u_3.1 45), .ref (u_3.1 46), .ref (u_3.1 47), .ref (u_3.1 48), .ref (u_3.1 49), .ref (u_3.1 50), .ref (u_3.1 51)])), ((u_3.1 42), .inr (2, [.int 0, .int 0, .int 0, .ref (u_3.1 52), .ref (u_3.1 53), .ref (u_3.1 54)])), ((u_3.1 10), .inr (1, [.ref (u_3.1 55), .ref (u_3.1 56), .int 0, .int 0, .ref (u_3.1 57), .ref (u_3.1 58), .int 0, .int (-1), .int 0, .int (-1), .int 0, .ref (u_3.1 59), .ref (u_3.1 60), .ref (u_3.1 61)])), ((u_3.1 11), .inr (3, [.ref (u_3.1 62), .ref (u_3.1 63), .int 0, .int 0, .ref (u_3.1 64), .ref (u_3.1 65), .ref (u_3.1 66), .ref (u_3.1 67), .int 0, .ref (u_3.1 68), .int 0, .int 0, .int 0, .int 0, .int (-1), .int (-1)])), ((u_3.1 12), .inr (0, [.ref (u_3.1 69), .ref (u_3.1 70), .ref (u_3.1 71), .int (-1), .int (-1)])), (q_5, .inr (12, [.null, .int 0, .null, .int 0, .int 0, .int 0, .int 0, .int 0, .int 0, .int 0, .null, .int 0, .null, .null, .null, .null, .null, .null, .null, .null, .null, .null, .null, .null, .null, .null, .null, .null, .long 0, .null, .int 0, .null, .null, .int 0, .long 0, .null, .null, .null, .int 0, .null, .null, .int 0, .int 0, .null, .int 0, .int 0, .null, .null, .null, .null, .int 0, .int 0, .int 0, .int 0, .null, .null, .null, .int 0, .int 0, .int 0, .null, .null, .null, .null, .int 0, .null, .null]))] H := hP
  have hD : va_D A [(q_1, .inr (11, [.ref (u_3.1 0), .int 0, .ref (u_3.1 1), .ref (u_3.1 2), .ref (u_3.1 3), .ref (u_3.1 4), .ref (u_3.1 5), .ref (u_3.1 6), .ref (u_3.1 7), .ref (u_3.1 8), .ref (u_3.1 9), .ref (u_3.1 10), .ref (u_3.1 11), .ref (u_3.1 12), .ref (u_3.1 13), .int 1])), ((u_3.1 0), .inl ((u_3.1 14), 1200, .inl (fun _ => 0))), ((u_3.1 1), .inl ((u_3.1 15), 5, .inl (fun _ => 0))), ((u_3.1 2), .inr (5, [.ref (u_3.1 16), .int 0, .int 0, .int (-1)])), ((u_3.1 16), .inr (10, [.ref (u_3.1 17), .ref (u_3.1 18), .int 0, .int 0, .int 0, .int 0, .int 0, .int 0])), ((u_3.1 3), .inr (9, [.int 0, .ref (u_3.1 19), .ref (u_3.1 20), .ref (u_3.1 21), .ref (u_3.1 22), .int 0, .ref (u_3.1 23), .ref (u_3.1 24), .ref (u_3.1 25)])), ((u_3.1 23), .inr (4, [.int 0, .int 0, .ref (u_3.1 26), .ref (u_3.1 27), .ref (u_3.1 28), .ref (u_3.1 29), .ref (u_3.1 30), .ref (u_3.1 31), .ref (u_3.1 32), .ref (u_3.1 33)])), ((u_3.1 24), .inr (2, [.int 0, .int 0, .int 0, .ref (u_3.1 34), .ref (u_3.1 35), .ref (u_3.1 36)])), ((u_3.1 4), .inr (9, [.int 0, .ref (u_3.1 37), .ref (u_3.1 38), .ref (u_3.1 39), .ref (u_3.1 40), .int 0, .ref (u_3.1 41), .ref (u_3.1 42), .ref (u_3.1 43)])), ((u_3.1 41), .inr (4, [.int 0, .int 0, .ref (u_3.1 44), .ref (u_3.1 45), .ref (u_3.1 46), .ref (u_3.1 47), .ref (u_3.1 48), .ref (u_3.1 49), .ref (u_3.1 50), .ref (u_3.1 51)])), ((u_3.1 42), .inr (2, [.int 0, .int 0, .int 0, .ref (u_3.1 52), .ref (u_3.1 53), .ref (u_3.1 54)])), ((u_3.1 10), .inr (1, [.ref (u_3.1 55), .ref (u_3.1 56), .int 0, .int 0, .ref (u_3.1 57), .ref (u_3.1 58), .int 0, .int (-1), .int 0, .int (-1), .int 0, .ref (u_3.1 59), .ref (u_3.1 60), .ref (u_3.1 61)])), ((u_3.1 11), .inr (3, [.ref (u_3.1 62), .ref (u_3.1 63), .int 0, .int 0, .ref (u_3.1 64), .ref (u_3.1 65), .ref (u_3.1 66), .ref (u_3.1 67), .int 0, .ref (u_3.1 68), .int 0, .int 0, .int 0, .int 0, .int (-1), .int (-1)])), ((u_3.1 12), .inr (0, [.ref (u_3.1 69), .ref (u_3.1 70), .ref (u_3.1 71), .int (-1), .int (-1)])), (q_5, .inr (12, [.null, .int 0, .null, .int 0, .int 0, .int 0, .int 0, .int 0, .int 0, .int 0, .null, .int 0, .null, .null, .null, .null, .null, .null, .null, .null, .null, .null, .null, .null, .null, .null, .null, .null, .long 0, .null, .int 0, .null, .null, .int 0, .long 0, .null, .null, .null, .int 0, .null, .null, .int 0, .int 0, .null, .int 0, .int 0, .null, .null, .null, .null, .int 0, .int 0, .int 0, .int 0, .null, .null, .null, .int 0, .int 0, .int 0, .null, .null, .null, .null, .int 0, .null, .null]))] := hD
  refine W.widen (k := 91) (n := 2257) (Nat.le_of_ble_eq_true rfl) (Nat.le_of_ble_eq_true rfl) ?_
  refine lv_dup hx hb dL_law_11 rfl ?_
  have hPc := hP.sub (ws' := [(q_5, .inr (12, [.null, .int 0, .null, .int 0, .int 0, .int 0, .int 0, .int 0, .int 0, .int 0, .null, .int 0, .null, .null, .null, .null, .null, .null, .null, .null, .null, .null, .null, .null, .null, .null, .null, .null, .long 0, .null, .int 0, .null, .null, .int 0, .long 0, .null, .null, .null, .int 0, .null, .null, .int 0, .int 0, .null, .int 0, .int 0, .null, .null, .null, .null, .int 0, .int 0, .int 0, .int 0, .null, .null, .null, .int 0, .int 0, .int 0, .null, .null, .null, .null, .int 0, .null, .null]))]) [14] rfl
  have hDc := hD.sub (ws' := [(q_5, .inr (12, [.null, .int 0, .null, .int 0, .int 0, .int 0, .int 0, .int 0, .int 0, .int 0, .null, .int 0, .null, .null, .null, .null, .null, .null, .null, .null, .null, .null, .null, .null, .null, .null, .null, .null, .long 0, .null, .int 0, .null, .null, .int 0, .long 0, .null, .null, .null, .int 0, .null, .null, .int 0, .int 0, .null, .int 0, .int 0, .null, .null, .null, .null, .int 0, .int 0, .int 0, .int 0, .null, .null, .null, .int 0, .int 0, .int 0, .null, .null, .null, .null, .int 0, .null, .null]))]) [14] (by decide) rfl
  have hKc := hK.sub (tys' := []) [] rfl
  have hFc := va_free (wc := [(q_5, .inr (12, [.null, .int 0, .null, .int 0, .int 0, .int 0, .int 0, .int 0, .int 0, .int 0, .null, .int 0, .null, .null, .null, .null, .null, .null, .null, .null, .null, .null, .null, .null, .null, .null, .null, .null, .long 0, .null, .int 0, .null, .null, .int 0, .long 0, .null, .null, .null, .int 0, .null, .null, .int 0, .int 0, .null, .int 0, .int 0, .null, .null, .null, .null, .int 0, .int 0, .int 0, .int 0, .null, .null, .null, .int 0, .int 0, .int 0, .null, .null, .null, .null, .int 0, .null, .null]))]) hD hS hA [14] rfl
  refine va_callv (va_runI (As := []) (rest := [.ref q_5]) ⟨hx, hb, hml, hown, hts⟩ (zc19_X12_init l dC dI q_5 H.size) (cwI 0 hts gL_law_X12_init rfl rfl rfl (hts (.initialized RX12) zw_L_law_571) (hts (.methodLink RL 12 yX12_init) zw_L_law_572) (hts (.instanceMethod yX12_init) zw_L_law_573) rfl (by decide +kernel) ⟨Nat.le_of_ble_eq_true rfl, Nat.le_of_ble_eq_true rfl⟩) ⟨fun a U g mk q => by obtain ⟨q0, q1, qP, qK, qD⟩ := q; exact ⟨q0, q1, qP, va_K.moved (u := U) (U := U.calling g mk a) (Vm.Alike.refl U.vm) qK, qD⟩, fun U hU hW => ⟨rfl, by rw [hU], by rw [hU]; exact hPc, va_K.moved hW.alike hKc, hDc.weaken (fun _ _ _ _ => trivial)⟩⟩ rfl rfl hl.1 rfl (lv_room (Nat.le_of_ble_eq_true rfl)) dL_law_12 ⟨Nat.le_of_ble_eq_true rfl, Nat.le_of_ble_eq_true rfl⟩) hS (fun q _ h => hFc q h) hFc (fun u_7 t H1 locs ht hvm hw_8 hB hz1 hk1 hS => ?_)
  obtain ⟨hP1, hK1, hD1⟩ := hB
  rw [ht] at hP1
  have hK1 := va_K.moved hvm.symm hK1
  obtain ⟨hP, hD⟩ := va_join (wr := [(q_1, .inr (11, [.ref (u_3.1 0), .int 0, .ref (u_3.1 1), .ref (u_3.1 2), .ref (u_3.1 3), .ref (u_3.1 4), .ref (u_3.1 5), .ref (u_3.1 6), .ref (u_3.1 7), .ref (u_3.1 8), .ref (u_3.1 9), .ref (u_3.1 10), .ref (u_3.1 11), .ref (u_3.1 12), .ref (u_3.1 13), .int 1])), ((u_3.1 0), .inl ((u_3.1 14), 1200, .inl (fun _ => 0))), ((u_3.1 1), .inl ((u_3.1 15), 5, .inl (fun _ => 0))), ((u_3.1 2), .inr (5, [.ref (u_3.1 16), .int 0, .int 0, .int (-1)])), ((u_3.1 16), .inr (10, [.ref (u_3.1 17), .ref (u_3.1 18), .int 0, .int 0, .int 0, .int 0, .int 0, .int 0])), ((u_3.1 3), .inr (9, [.int 0, .ref (u_3.1 19), .ref (u_3.1 20), .ref (u_3.1 21), .ref (u_3.1 22), .int 0, .ref (u_3.1 23), .ref (u_3.1 24), .ref (u_3.1 25)])), ((u_3.1 23), .inr (4, [.int 0, .int 0, .ref (u_3.1 26), .ref (u_3.1 27), .ref (u_3.1 28), .ref (u_3.1 29), .ref (u_3.1 30), .ref (u_3.1 31), .ref (u_3.1 32), .ref (u_3.1 33)])), ((u_3.1 24), .inr (2, [.int 0, .int 0, .int 0, .ref (u_3.1 34), .ref (u_3.1 35), .ref (u_3.1 36)])), ((u_3.1 4), .inr (9, [.int 0, .ref (u_3.1 37), .ref (u_3.1 38), .ref (u_3.1 39), .ref (u_3.1 40), .int 0, .ref (u_3.1 41), .ref (u_3.1 42), .ref (u_3.1 43)])), ((u_3.1 41), .inr (4, [.int 0, .int 0, .ref (u_3.1 44), .ref (u_3.1 45), .ref (u_3.1 46), .ref (u_3.1 47), .ref (u_3.1 48), .ref (u_3.1 49), .ref (u_3.1 50), .ref (u_3.1 51)])), ((u_3.1 42), .inr (2, [.int 0, .int 0, .int 0, .ref (u_3.1 52), .ref (u_3.1 53), .ref (u_3.1 54)])), ((u_3.1 10), .inr (1, [.ref (u_3.1 55), .ref (u_3.1 56), .int 0, .int 0, .ref (u_3.1 57), .ref (u_3.1 58), .int 0, .int (-1), .int 0, .int (-1), .int 0, .ref (u_3.1 59), .ref (u_3.1 60), .ref (u_3.1 61)])), ((u_3.1 11), .inr (3, [.ref (u_3.1 62), .ref (u_3.1 63), .int 0, .int 0, .ref (u_3.1 64), .ref (u_3.1 65), .ref (u_3.1 66), .ref (u_3.1 67), .int 0, .ref (u_3.1 68), .int 0, .int 0, .int 0, .int 0, .int (-1), .int (-1)])), ((u_3.1 12), .inr (0, [.ref (u_3.1 69), .ref (u_3.1 70), .ref (u_3.1 71), .int (-1), .int (-1)]))]) (w1 := [(q_5, .inr (12, [.ref (u_7.1 0), .int 0, .ref (u_7.1 1), .int 0, .int (-1), .int 0, .int 0, .int 0, .int 0, .int (-1), .ref (u_7.1 2), .int 0, .ref (u_7.1 3), .ref (u_7.1 4), .ref (u_7.1 5), .ref (u_7.1 6), .ref (u_7.1 7), .ref (u_7.1 8), .ref (u_7.1 9), .ref (u_7.1 10), .ref (u_7.1 11), .ref (u_7.1 12), .ref (u_7.1 13), .ref (u_7.1 14), .ref (u_7.1 15), .ref (u_7.1 16), .ref (u_7.1 17), .ref (u_7.1 18), .long 0, .ref (u_7.1 19), .int 0, .ref (u_7.1 20), .ref (u_7.1 21), .int (-1), .long 0, .ref (u_7.1 22), .ref (u_7.1 23), .ref (u_7.1 24), .int 0, .ref (u_7.1 25), .ref (u_7.1 26), .int (-2), .int 0, .ref (u_7.1 27), .int 0, .int 0, .ref (u_7.1 28), .ref (u_7.1 29), .ref (u_7.1 30), .ref (u_7.1 31), .int 0, .int 0, .int (-1), .int (-1), .ref (u_7.1 32), .ref (u_7.1 33), .ref (u_7.1 34), .int 0, .int (-1), .int (-1), .ref (u_7.1 35), .ref (u_7.1 36), .ref (u_7.1 37), .ref (u_7.1 38), .int 1, .ref (u_7.1 39), .ref (u_7.1 40)])), ((u_7.1 0), .inl ((u_7.1 41), 1200, .inl (fun _ => 0))), ((u_7.1 1), .inl ((u_7.1 42), 5, .inl (fun _ => 0))), ((u_7.1 3), .inl ((u_7.1 43), 2, .inl (fun _ => 0))), ((u_7.1 8), .inl ((u_7.1 44), 2, .inl (fun _ => 0))), ((u_7.1 15), .inl ((u_7.1 45), 2, .inl (fun _ => 0)))]) hP hD [14] [0, 1, 2, 3, 4, 5, 6, 7, 8, 9, 10, 11, 12, 13] rfl rfl (by decide) (by decide) hk1 hFc hP1 hD1
  have hK := hK.app hK1
  generalize H1 = H at hP hS ⊢
  have hP : va_P (dC, dI) vwCl [(q_1, .inr (11, [.ref (u_3.1 0), .int 0, .ref (u_3.1 1), .ref (u_3.1 2), .ref (u_3.1 3), .ref (u_3.1 4), .ref (u_3.1 5), .ref (u_3.1 6), .ref (u_3.1 7), .ref (u_3.1 8), .ref (u_3.1 9), .ref (u_3.1 10), .ref (u_3.1 11), .ref (u_3.1 12), .ref (u_3.1 13), .int 1])), ((u_3.1 0), .inl ((u_3.1 14), 1200, .inl (fun _ => 0))), ((u_3.1 1), .inl ((u_3.1 15), 5, .inl (fun _ => 0))), ((u_3.1 2), .inr (5, [.ref (u_3.1 16), .int 0, .int 0, .int (-1)])), ((u_3.1 16), .inr (10, [.ref (u_3.1 17), .ref (u_3.1 18), .int 0, .int 0, .int 0, .int 0, .int 0, .int 0])), ((u_3.1 3), .inr (9, [.int 0, .ref (u_3.1 19), .ref (u_3.1 20), .ref (u_3.1 21), .ref (u_3.1 22), .int 0, .ref (u_3.1 23), .ref (u_3.1 24), .ref (u_3.1 25)])), ((u_3.1 23), .inr (4, [.int 0, .int 0, .ref (u_3.1 26), .ref (u_3.1 27), .ref (u_3.1 28), .ref (u_3.1 29), .ref (u_3.1 30), .ref (u_3.1 31), .ref (u_3.1 32), .ref (u_3.1 33)])), ((u_3.1 24), .inr (2, [.int 0, .int 0, .int 0, .ref (u_3.1 34), .ref (u_3.1 35), .ref (u_3.1 36)])), ((u_3.1 4), .inr (9, [.int 0, .ref (u_3.1 37), .ref (u_3.1 38), .ref (u_3.1 39), .ref (u_3.1 40), .int 0, .ref (u_3.1 41), .ref (u_3.1 42), .ref (u_3.1 43)])), ((u_3.1 41), .inr (4, [.int 0, .int 0, .ref (u_3.1 44), .ref (u_3.1 45), .ref (u_3.1 46), .ref (u_3.1 47), .ref (u_3.1 48), .ref (u_3.1 49), .ref (u_3.1 50), .ref (u_3.1 51)])), ((u_3.1 42), .inr (2, [.int 0, .int 0, .int 0, .ref (u_3.1 52), .ref (u_3.1 53), .ref (u_3.1 54)])), ((u_3.1 10), .inr (1, [.ref (u_3.1 55), .ref (u_3.1 56), .int 0, .int 0, .ref (u_3.1 57), .ref (u_3.1 58), .int 0, .int (-1), .int 0, .int (-1), .int 0, .ref (u_3.1 59), .ref (u_3.1 60), .ref (u_3.1 61)])), ((u_3.1 11), .inr (3, [.ref (u_3.1 62), .ref (u_3.1 63), .int 0, .int 0, .ref (u_3.1 64), .ref (u_3.1 65), .ref (u_3.1 66), .ref (u_3.1 67), .int 0, .ref (u_3.1 68), .int 0, .int 0, .int 0, .int 0, .int (-1), .int (-1)])), ((u_3.1 12), .inr (0, [.ref (u_3.1 69), .ref (u_3.1 70), .ref (u_3.1 71), .int (-1), .int (-1)])), (q_5, .inr (12, [.ref (u_7.1 0), .int 0, .ref (u_7.1 1), .int 0, .int (-1), .int 0, .int 0, .int 0, .int 0, .int (-1), .ref (u_7.1 2), .int 0, .ref (u_7.1 3), .ref (u_7.1 4), .ref (u_7.1 5), .ref (u_7.1 6), .ref (u_7.1 7), .ref (u_7.1 8), .ref (u_7.1 9), .ref (u_7.1 10), .ref (u_7.1 11), .ref (u_7.1 12), .ref (u_7.1 13), .ref (u_7.1 14), .ref (u_7.1 15), .ref (u_7.1 16), .ref (u_7.1 17), .ref (u_7.1 18), .long 0, .ref (u_7.1 19), .int 0, .ref (u_7.1 20), .ref (u_7.1 21), .int (-1), .long 0, .ref (u_7.1 22), .ref (u_7.1 23), .ref (u_7.1 24), .int 0, .ref (u_7.1 25), .ref (u_7.1 26), .int (-2), .int 0, .ref (u_7.1 27), .int 0, .int 0, .ref (u_7.1 28), .ref (u_7.1 29), .ref (u_7.1 30), .ref (u_7.1 31), .int 0, .int 0, .int (-1), .int (-1), .ref (u_7.1 32), .ref (u_7.1 33), .ref (u_7.1 34), .int 0, .int (-1), .int (-1), .ref (u_7.1 35), .ref (u_7.1 36), .ref (u_7.1 37), .ref (u_7.1 38), .int 1, .ref (u_7.1 39), .ref (u_7.1 40)])), ((u_7.1 0), .inl ((u_7.1 41), 1200, .inl (fun _ => 0))), ((u_7.1 1), .inl ((u_7.1 42), 5, .inl (fun _ => 0))), ((u_7.1 3), .inl ((u_7.1 43), 2, .inl (fun _ => 0))), ((u_7.1 8), .inl ((u_7.1 44), 2, .inl (fun _ => 0))), ((u_7.1 15), .inl ((u_7.1 45), 2, .inl (fun _ => 0)))] H := hP
  have hD : va_D A [(q_1, .inr (11, [.ref (u_3.1 0), .int 0, .ref (u_3.1 1), .ref (u_3.1 2), .ref (u_3.1 3), .ref (u_3.1 4), .ref (u_3.1 5), .ref (u_3.1 6), .ref (u_3.1 7), .ref (u_3.1 8), .ref (u_3.1 9), .ref (u_3.1 10), .ref (u_3.1 11), .ref (u_3.1 12), .ref (u_3.1 13), .int 1])), ((u_3.1 0), .inl ((u_3.1 14), 1200, .inl (fun _ => 0))), ((u_3.1 1), .inl ((u_3.1 15), 5, .inl (fun _ => 0))), ((u_3.1 2), .inr (5, [.ref (u_3.1 16), .int 0, .int 0, .int (-1)])), ((u_3.1 16), .inr (10, [.ref (u_3.1 17), .ref (u_3.1 18), .int 0, .int 0, .int 0, .int 0, .int 0, .int 0])), ((u_3.1 3), .inr (9, [.int 0, .ref (u_3.1 19), .ref (u_3.1 20), .ref (u_3.1 21), .ref (u_3.1 22), .int 0, .ref (u_3.1 23), .ref (u_3.1 24), .ref (u_3.1 25)])), ((u_3.1 23), .inr (4, [.int 0, .int 0, .ref (u_3.1 26), .ref (u_3.1 27), .ref (u_3.1 28), .ref (u_3.1 29), .ref (u_3.1 30), .ref (u_3.1 31), .ref (u_3.1 32), .ref (u_3.1 33)])), ((u_3.1 24), .inr (2, [.int 0, .int 0, .int 0, .ref (u_3.1 34), .ref (u_3.1 35), .ref (u_3.1 36)])), ((u_3.1 4), .inr (9, [.int 0, .ref (u_3.1 37), .ref (u_3.1 38), .ref (u_3.1 39), .ref (u_3.1 40), .int 0, .ref (u_3.1 41), .ref (u_3.1 42), .ref (u_3.1 43)])), ((u_3.1 41), .inr (4, [.int 0, .int 0, .ref (u_3.1 44), .ref (u_3.1 45), .ref (u_3.1 46), .ref (u_3.1 47), .ref (u_3.1 48), .ref (u_3.1 49), .ref (u_3.1 50), .ref (u_3.1 51)])), ((u_3.1 42), .inr (2, [.int 0, .int 0, .int 0, .ref (u_3.1 52), .ref (u_3.1 53), .ref (u_3.1 54)])), ((u_3.1 10), .inr (1, [.ref (u_3.1 55), .ref (u_3.1 56), .int 0, .int 0, .ref (u_3.1 57), .ref (u_3.1 58), .int 0, .int (-1), .int 0, .int (-1), .int 0, .ref (u_3.1 59), .ref (u_3.1 60), .ref (u_3.1 61)])), ((u_3.1 11), .inr (3, [.ref (u_3.1 62), .ref (u_3.1 63), .int 0, .int 0, .ref (u_3.1 64), .ref (u_3.1 65), .ref (u_3.1 66), .ref (u_3.1 67), .int 0, .ref (u_3.1 68), .int 0, .int 0, .int 0, .int 0, .int (-1), .int (-1)])), ((u_3.1 12), .inr (0, [.ref (u_3.1 69), .ref (u_3.1 70), .ref (u_3.1 71), .int (-1), .int (-1)])), (q_5, .inr (12, [.ref (u_7.1 0), .int 0, .ref (u_7.1 1), .int 0, .int (-1), .int 0, .int 0, .int 0, .int 0, .int (-1), .ref (u_7.1 2), .int 0, .ref (u_7.1 3), .ref (u_7.1 4), .ref (u_7.1 5), .ref (u_7.1 6), .ref (u_7.1 7), .ref (u_7.1 8), .ref (u_7.1 9), .ref (u_7.1 10), .ref (u_7.1 11), .ref (u_7.1 12), .ref (u_7.1 13), .ref (u_7.1 14), .ref (u_7.1 15), .ref (u_7.1 16), .ref (u_7.1 17), .ref (u_7.1 18), .long 0, .ref (u_7.1 19), .int 0, .ref (u_7.1 20), .ref (u_7.1 21), .int (-1), .long 0, .ref (u_7.1 22), .ref (u_7.1 23), .ref (u_7.1 24), .int 0, .ref (u_7.1 25), .ref (u_7.1 26), .int (-2), .int 0, .ref (u_7.1 27), .int 0, .int 0, .ref (u_7.1 28), .ref (u_7.1 29), .ref (u_7.1 30), .ref (u_7.1 31), .int 0, .int 0, .int (-1), .int (-1), .ref (u_7.1 32), .ref (u_7.1 33), .ref (u_7.1 34), .int 0, .int (-1), .int (-1), .ref (u_7.1 35), .ref (u_7.1 36), .ref (u_7.1 37), .ref (u_7.1 38), .int 1, .ref (u_7.1 39), .ref (u_7.1 40)])), ((u_7.1 0), .inl ((u_7.1 41), 1200, .inl (fun _ => 0))), ((u_7.1 1), .inl ((u_7.1 42), 5, .inl (fun _ => 0))), ((u_7.1 3), .inl ((u_7.1 43), 2, .inl (fun _ => 0))), ((u_7.1 8), .inl ((u_7.1 44), 2, .inl (fun _ => 0))), ((u_7.1 15), .inl ((u_7.1 45), 2, .inl (fun _ => 0)))] := hD
  have hK : va_K (dC, dI) vwCl [((u_3.1 14), .byte), ((u_3.1 15), .int), ((u_7.1 41), .int), ((u_7.1 42), .int), ((u_7.1 43), .int), ((u_7.1 44), .int), ((u_7.1 45), .int)] s := hK
  refine W.widen (k := 132) (n := 7261) (Nat.le_of_ble_eq_true rfl) (Nat.le_of_ble_eq_true rfl) ?_
  refine lv_astore_n (lv' := [(2, .ref q_5), (1, .ref q_1), (0, .ref b)]) hx hb dL_law_15 rfl hl (by decide) rfl (fun ls hl => ?_)
  refine lv_iconst (v := 0) hx hb dL_law_16 (by decide +kernel) ?_
  refine lv_istore_n (lv' := [(3, .int 0), (2, .ref q_5), (1, .ref q_1), (0, .ref b)]) hx hb dL_law_17 rfl hl (by decide) rfl (fun ls hl => ?_)
  exact law_head hA hA2 hbA hL C0 q_1 q_5 u_3 u_7 H locs (hK.sub [0, 1, 2, 3, 4, 5, 6] rfl) (hP.sub [0, 1, 2, 3, 4, 5, 6, 7, 8, 9, 10, 11, 12, 13, 14, 15, 16, 17, 18, 19] rfl) (hD.sub [0, 1, 2, 3, 4, 5, 6, 7, 8, 9, 10, 11, 12, 13, 14, 15, 16, 17, 18, 19] (by decide) rfl) hS ls (lv_sub hl [0, 1, 2, 3] rfl)
