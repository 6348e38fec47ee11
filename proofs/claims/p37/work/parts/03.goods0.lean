theorem goodIn_hd {big X : List Cond} {c : Cond} (hc : GoodIn big [c]) (hx : GoodIn big X) : GoodIn big (c :: X) := fun w hw => (List.mem_cons.mp hw).elim (fun e => hc w (by rw [e]; exact List.mem_singleton.mpr rfl)) (hx w)
theorem goodIn_c {zc : List (List Cond)} {big ws : List Cond} (hz : ∀ l ∈ zc, ∀ w ∈ l, w ∈ big) (ps : List (Nat × Nat)) (hp : ws = ps.filterMap (fun p => (zc[p.1]?).bind (fun l => l[p.2]?))) (h : ws.all goodWord = true) : GoodIn big ws := by
  refine goodIn_sub (fun w hw => ?_) h
  rw [hp] at hw
  obtain ⟨p, -, hp⟩ := List.mem_filterMap.mp hw
  have hp : (zc[p.1]?).bind (fun l => l[p.2]?) = some w := hp
  cases h1 : zc[p.1]? with
  | none => rw [h1] at hp; cases hp
  | some l =>
    rw [h1] at hp
    have hp : l[p.2]? = some w := hp
    exact hz l (List.mem_of_getElem? h1) w (List.mem_of_getElem? hp)
set_option maxRecDepth 100000 in
theorem ggX0_init_X6_init : GoodIn wsX0_init wsX6_init := goodIn_r _ [17, 18, 2, 3, 19, 20, 21, 22, 23, 28, 29, 30] rfl (by decide +kernel)
set_option maxRecDepth 100000 in
theorem gX0_init_X6_init_n11 : GoodIn wsX0_init (wsX6_init) := ggX0_init_X6_init
set_option maxRecDepth 100000 in
theorem ggX0_init_X7_init : GoodIn wsX0_init wsX7_init := goodIn_r _ [25, 26, 2, 3, 19, 27, 36, 37, 38] rfl (by decide +kernel)
set_option maxRecDepth 100000 in
theorem gX0_init_X7_init_n20 : GoodIn wsX0_init (wsX7_init) := ggX0_init_X7_init
set_option maxRecDepth 100000 in
theorem ggX0_holds_X0_forget : GoodIn wsX0_holds wsX0_forget := goodIn_r _ [11, 5, 6, 176, 177, 178, 179, 180] rfl (by decide +kernel)
set_option maxRecDepth 100000 in
theorem gX0_holds_X0_forget : GoodIn wsX0_holds (wsV RX0 36 RX0 yX0_forget wsX0_forget) := goodIn_app (goodIn_r _ [7, 8, 9, 10] rfl (by decide +kernel)) ggX0_holds_X0_forget
set_option maxRecDepth 100000 in
theorem ggX0_holds_X2_fillFree : GoodIn wsX0_holds wsX2_fillFree := goodIn_r _ [16, 17, 18, 181, 182, 183, 184, 185, 186] rfl (by decide +kernel)
set_option maxRecDepth 100000 in
theorem gX0_holds_X2_fillFree : GoodIn wsX0_holds (wsV RX0 54 RX2 yX2_fillFree wsX2_fillFree) := goodIn_app (goodIn_r _ [12, 13, 14, 15] rfl (by decide +kernel)) ggX0_holds_X2_fillFree
noncomputable def zc_wsX0_holds : List (List Cond) := [wsX0_holds_r1, wsX0_holds_r2, wsX0_holds_r3, wsX0_holds_r4, wsX0_holds_r5, wsX0_holds_r6, wsX0_holds_r7, wsX90, wsX40, wsX00, wsX20, wsX60, wsX70]
set_option maxRecDepth 20000 in
theorem zc_wsX0_holds_in : ∀ l ∈ zc_wsX0_holds, ∀ w ∈ l, w ∈ wsX0_holds := by
  intro l hl
  unfold zc_wsX0_holds at hl
  rcases List.mem_cons.mp hl with e | hl
  · rw [e]
    exact fun w h => List.mem_cons_of_mem _ (List.mem_append_left _ (List.mem_append_left _ (List.mem_append_left _ (List.mem_append_left _ (List.mem_append_left _ (List.mem_append_left _ (List.mem_append_left _ h)))))))
  rcases List.mem_cons.mp hl with e | hl
  · rw [e]
    exact fun w h => List.mem_cons_of_mem _ (List.mem_append_left _ (List.mem_append_left _ (List.mem_append_left _ (List.mem_append_left _ (List.mem_append_left _ (List.mem_append_left _ (List.mem_append_right _ (List.mem_append_left _ h))))))))
  rcases List.mem_cons.mp hl with e | hl
  · rw [e]
    exact fun w h => List.mem_cons_of_mem _ (List.mem_append_left _ (List.mem_append_left _ (List.mem_append_left _ (List.mem_append_left _ (List.mem_append_left _ (List.mem_append_left _ (List.mem_append_right _ (List.mem_append_right _ (List.mem_append_left _ h)))))))))
  rcases List.mem_cons.mp hl with e | hl
  · rw [e]
    exact fun w h => List.mem_cons_of_mem _ (List.mem_append_left _ (List.mem_append_left _ (List.mem_append_left _ (List.mem_append_left _ (List.mem_append_left _ (List.mem_append_left _ (List.mem_append_right _ (List.mem_append_right _ (List.mem_append_right _ (List.mem_append_left _ h))))))))))
  rcases List.mem_cons.mp hl with e | hl
  · rw [e]
    exact fun w h => List.mem_cons_of_mem _ (List.mem_append_left _ (List.mem_append_left _ (List.mem_append_left _ (List.mem_append_left _ (List.mem_append_left _ (List.mem_append_left _ (List.mem_append_right _ (List.mem_append_right _ (List.mem_append_right _ (List.mem_append_right _ (List.mem_append_left _ h)))))))))))
  rcases List.mem_cons.mp hl with e | hl
  · rw [e]
    exact fun w h => List.mem_cons_of_mem _ (List.mem_append_left _ (List.mem_append_left _ (List.mem_append_left _ (List.mem_append_left _ (List.mem_append_left _ (List.mem_append_left _ (List.mem_append_right _ (List.mem_append_right _ (List.mem_append_right _ (List.mem_append_right _ (List.mem_append_right _ (List.mem_append_left _ h))))))))))))
  rcases List.mem_cons.mp hl with e | hl
  · rw [e]
    exact fun w h => List.mem_cons_of_mem _ (List.mem_append_left _ (List.mem_append_left _ (List.mem_append_left _ (List.mem_append_left _ (List.mem_append_left _ (List.mem_append_left _ (List.mem_append_right _ (List.mem_append_right _ (List.mem_append_right _ (List.mem_append_right _ (List.mem_append_right _ (List.mem_append_right _ h))))))))))))
  rcases List.mem_cons.mp hl with e | hl
  · rw [e]
    exact fun w h => List.mem_cons_of_mem _ (List.mem_append_left _ (List.mem_append_left _ (List.mem_append_left _ (List.mem_append_left _ (List.mem_append_left _ (List.mem_append_right _ h))))))
  rcases List.mem_cons.mp hl with e | hl
  · rw [e]
    exact fun w h => List.mem_cons_of_mem _ (List.mem_append_left _ (List.mem_append_left _ (List.mem_append_left _ (List.mem_append_left _ (List.mem_append_right _ h)))))
  rcases List.mem_cons.mp hl with e | hl
  · rw [e]
    exact fun w h => List.mem_cons_of_mem _ (List.mem_append_left _ (List.mem_append_left _ (List.mem_append_left _ (List.mem_append_right _ h))))
  rcases List.mem_cons.mp hl with e | hl
  · rw [e]
    exact fun w h => List.mem_cons_of_mem _ (List.mem_append_left _ (List.mem_append_left _ (List.mem_append_right _ h)))
  rcases List.mem_cons.mp hl with e | hl
  · rw [e]
    exact fun w h => List.mem_cons_of_mem _ (List.mem_append_left _ (List.mem_append_right _ h))
  rcases List.mem_cons.mp hl with e | hl
  · rw [e]
    exact fun w h => List.mem_cons_of_mem _ (List.mem_append_right _ h)
  cases hl
theorem zB_X0_holds_X90 : ∀ w ∈ wsX90, w ∈ wsX0_holds := fun _ h => List.mem_cons_of_mem _ (List.mem_append_left _ (List.mem_append_left _ (List.mem_append_left _ (List.mem_append_left _ (List.mem_append_left _ (List.mem_append_right _ h))))))
theorem zgw_X90 : wsX90.all goodWord = true := by decide +kernel
theorem zB_X0_holds_X20 : ∀ w ∈ wsX20, w ∈ wsX0_holds := fun _ h => List.mem_cons_of_mem _ (List.mem_append_left _ (List.mem_append_left _ (List.mem_append_right _ h)))
theorem zgw_X20 : wsX20.all goodWord = true := by decide +kernel
theorem zB_X0_holds_X00 : ∀ w ∈ wsX00, w ∈ wsX0_holds := fun _ h => List.mem_cons_of_mem _ (List.mem_append_left _ (List.mem_append_left _ (List.mem_append_left _ (List.mem_append_right _ h))))
theorem zgw_X00 : wsX00.all goodWord = true := by decide +kernel
theorem zB_X0_holds_X60 : ∀ w ∈ wsX60, w ∈ wsX0_holds := fun _ h => List.mem_cons_of_mem _ (List.mem_append_left _ (List.mem_append_right _ h))
theorem zgw_X60 : wsX60.all goodWord = true := by decide +kernel
theorem zB_X0_holds_X70 : ∀ w ∈ wsX70, w ∈ wsX0_holds := fun _ h => List.mem_cons_of_mem _ (List.mem_append_right _ h)
theorem zgw_X70 : wsX70.all goodWord = true := by decide +kernel
theorem zB_X0_holds_X40 : ∀ w ∈ wsX40, w ∈ wsX0_holds := fun _ h => List.mem_cons_of_mem _ (List.mem_append_left _ (List.mem_append_left _ (List.mem_append_left _ (List.mem_append_left _ (List.mem_append_right _ h)))))
theorem zgw_X40 : wsX40.all goodWord = true := by decide +kernel
set_option maxRecDepth 100000 in
theorem ggX0_holds_X0_whyNot : GoodIn wsX0_holds wsX0_whyNot := goodIn_hd (goodIn_c zc_wsX0_holds_in [(0, 21)] rfl (by decide +kernel)) (goodIn_app (goodIn_app (goodIn_app (goodIn_app (goodIn_app (goodIn_app (goodIn_app (goodIn_c zc_wsX0_holds_in [(0, 2), (0, 22), (0, 3), (0, 23), (1, 0), (1, 1), (1, 2), (1, 3), (0, 0), (1, 4), (1, 5), (1, 6), (1, 7), (1, 8), (1, 9), (1, 10), (1, 11), (1, 12), (0, 9), (1, 13), (1, 14), (1, 15), (1, 16), (1, 17)] rfl (by decide +kernel)) (goodIn_app (goodIn_c zc_wsX0_holds_in [(1, 18), (1, 19), (1, 20), (1, 21), (1, 22), (1, 23), (2, 0), (2, 1), (2, 2), (2, 3), (2, 4), (2, 5), (2, 6), (2, 7), (2, 8), (2, 9), (2, 10), (2, 11), (2, 12), (2, 13), (2, 14), (2, 15), (2, 16), (2, 17)] rfl (by decide +kernel)) (goodIn_app (goodIn_c zc_wsX0_holds_in [(2, 18), (2, 19), (2, 20), (2, 21), (2, 22), (2, 23), (3, 0), (3, 1), (3, 2), (3, 3), (3, 4), (3, 5), (3, 6), (3, 7), (3, 8), (3, 9), (3, 10), (3, 11), (3, 12), (3, 13), (3, 14), (3, 15), (3, 16), (3, 17)] rfl (by decide +kernel)) (goodIn_app (goodIn_c zc_wsX0_holds_in [(3, 18), (3, 19), (3, 20), (3, 21), (3, 22), (3, 23), (4, 0), (4, 1), (4, 2), (4, 3), (4, 4), (4, 5), (4, 6), (4, 7), (4, 8), (4, 9), (4, 10), (4, 11), (4, 12), (4, 13), (4, 14), (4, 15), (4, 16), (4, 17)] rfl (by decide +kernel)) (goodIn_app (goodIn_c zc_wsX0_holds_in [(4, 18), (4, 19), (4, 20), (4, 21), (4, 22), (4, 23), (5, 0), (5, 1), (5, 2), (5, 3), (5, 4), (5, 5), (5, 6), (5, 7), (5, 8), (5, 9), (5, 10), (5, 11), (5, 12), (5, 13), (5, 14), (5, 15), (5, 16), (5, 17)] rfl (by decide +kernel)) (goodIn_c zc_wsX0_holds_in [(5, 18), (5, 19), (5, 20), (5, 21), (5, 22), (5, 23), (6, 0), (6, 1), (6, 2), (6, 3), (6, 4), (6, 5), (6, 6), (6, 7), (6, 8), (6, 9), (6, 10), (6, 11)] rfl (by decide +kernel))))))) (goodIn_sub zB_X0_holds_X90 zgw_X90)) (goodIn_sub zB_X0_holds_X20 zgw_X20)) (goodIn_sub zB_X0_holds_X00 zgw_X00)) (goodIn_sub zB_X0_holds_X60 zgw_X60)) (goodIn_sub zB_X0_holds_X70 zgw_X70)) (goodIn_sub zB_X0_holds_X40 zgw_X40))
set_option maxRecDepth 100000 in
theorem gX0_holds_X0_whyNot : GoodIn wsX0_holds (wsV RX0 60 RX0 yX0_whyNot wsX0_whyNot) := goodIn_app (goodIn_r _ [19, 20, 21, 10] rfl (by decide +kernel)) ggX0_holds_X0_whyNot
set_option maxRecDepth 100000 in
theorem ggX0_whyNot_X9_hasFormat : GoodIn wsX0_whyNot wsX9_hasFormat := goodIn_r _ [15, 16, 139, 140, 141, 142, 143, 144, 145, 146, 147] rfl (by decide +kernel)
set_option maxRecDepth 100000 in
theorem gX0_whyNot_X9_hasFormat : GoodIn wsX0_whyNot (wsV RX0 67 RX9 yX9_hasFormat wsX9_hasFormat) := goodIn_app (goodIn_r _ [11, 12, 13, 14] rfl (by decide +kernel)) ggX0_whyNot_X9_hasFormat
set_option maxRecDepth 100000 in
theorem ggX0_whyNot_X0_readLong : GoodIn wsX0_whyNot wsX0_readLong := goodIn_r _ [20, 21, 22, 23, 24, 25, 26, 27, 28, 29] rfl (by decide +kernel)
set_option maxRecDepth 100000 in
theorem gX0_whyNot_X0_readLong : GoodIn wsX0_whyNot (va_wsS RX0 75 yX0_readLong wsX0_readLong) := goodIn_app (goodIn_r _ [17, 18, 19] rfl (by decide +kernel)) ggX0_whyNot_X0_readLong
noncomputable def zc_wsX0_whyNot : List (List Cond) := [wsX0_whyNot_r1, wsX0_whyNot_r2, wsX0_whyNot_r3, wsX0_whyNot_r4, wsX0_whyNot_r5, wsX0_whyNot_r6, wsX90, wsX20, wsX00, wsX60, wsX70, wsX40]
set_option maxRecDepth 20000 in
theorem zc_wsX0_whyNot_in : ∀ l ∈ zc_wsX0_whyNot, ∀ w ∈ l, w ∈ wsX0_whyNot := by
  intro l hl
  unfold zc_wsX0_whyNot at hl
  rcases List.mem_cons.mp hl with e | hl
  · rw [e]
    exact fun w h => List.mem_cons_of_mem _ (List.mem_append_left _ (List.mem_append_left _ (List.mem_append_left _ (List.mem_append_left _ (List.mem_append_left _ (List.mem_append_left _ (List.mem_append_left _ h)))))))
  rcases List.mem_cons.mp hl with e | hl
  · rw [e]
    exact fun w h => List.mem_cons_of_mem _ (List.mem_append_left _ (List.mem_append_left _ (List.mem_append_left _ (List.mem_append_left _ (List.mem_append_left _ (List.mem_append_left _ (List.mem_append_right _ (List.mem_append_left _ h))))))))
  rcases List.mem_cons.mp hl with e | hl
  · rw [e]
    exact fun w h => List.mem_cons_of_mem _ (List.mem_append_left _ (List.mem_append_left _ (List.mem_append_left _ (List.mem_append_left _ (List.mem_append_left _ (List.mem_append_left _ (List.mem_append_right _ (List.mem_append_right _ (List.mem_append_left _ h)))))))))
  rcases List.mem_cons.mp hl with e | hl
  · rw [e]
    exact fun w h => List.mem_cons_of_mem _ (List.mem_append_left _ (List.mem_append_left _ (List.mem_append_left _ (List.mem_append_left _ (List.mem_append_left _ (List.mem_append_left _ (List.mem_append_right _ (List.mem_append_right _ (List.mem_append_right _ (List.mem_append_left _ h))))))))))
  rcases List.mem_cons.mp hl with e | hl
  · rw [e]
    exact fun w h => List.mem_cons_of_mem _ (List.mem_append_left _ (List.mem_append_left _ (List.mem_append_left _ (List.mem_append_left _ (List.mem_append_left _ (List.mem_append_left _ (List.mem_append_right _ (List.mem_append_right _ (List.mem_append_right _ (List.mem_append_right _ (List.mem_append_left _ h)))))))))))
  rcases List.mem_cons.mp hl with e | hl
  · rw [e]
    exact fun w h => List.mem_cons_of_mem _ (List.mem_append_left _ (List.mem_append_left _ (List.mem_append_left _ (List.mem_append_left _ (List.mem_append_left _ (List.mem_append_left _ (List.mem_append_right _ (List.mem_append_right _ (List.mem_append_right _ (List.mem_append_right _ (List.mem_append_right _ h)))))))))))
  rcases List.mem_cons.mp hl with e | hl
  · rw [e]
    exact fun w h => List.mem_cons_of_mem _ (List.mem_append_left _ (List.mem_append_left _ (List.mem_append_left _ (List.mem_append_left _ (List.mem_append_left _ (List.mem_append_right _ h))))))
  rcases List.mem_cons.mp hl with e | hl
  · rw [e]
    exact fun w h => List.mem_cons_of_mem _ (List.mem_append_left _ (List.mem_append_left _ (List.mem_append_left _ (List.mem_append_left _ (List.mem_append_right _ h)))))
  rcases List.mem_cons.mp hl with e | hl
  · rw [e]
    exact fun w h => List.mem_cons_of_mem _ (List.mem_append_left _ (List.mem_append_left _ (List.mem_append_left _ (List.mem_append_right _ h))))
  rcases List.mem_cons.mp hl with e | hl
  · rw [e]
    exact fun w h => List.mem_cons_of_mem _ (List.mem_append_left _ (List.mem_append_left _ (List.mem_append_right _ h)))
  rcases List.mem_cons.mp hl with e | hl
  · rw [e]
    exact fun w h => List.mem_cons_of_mem _ (List.mem_append_left _ (List.mem_append_right _ h))
  rcases List.mem_cons.mp hl with e | hl
  · rw [e]
    exact fun w h => List.mem_cons_of_mem _ (List.mem_append_right _ h)
  cases hl
theorem zB_X0_whyNot_X40 : ∀ w ∈ wsX40, w ∈ wsX0_whyNot := fun _ h => List.mem_cons_of_mem _ (List.mem_append_right _ h)
theorem zB_X0_whyNot_X60 : ∀ w ∈ wsX60, w ∈ wsX0_whyNot := fun _ h => List.mem_cons_of_mem _ (List.mem_append_left _ (List.mem_append_left _ (List.mem_append_right _ h)))
set_option maxRecDepth 100000 in
theorem ggX0_whyNot_X6_lowest : GoodIn wsX0_whyNot wsX6_lowest := goodIn_hd (goodIn_c zc_wsX0_whyNot_in [(1, 9)] rfl (by decide +kernel)) (goodIn_app (goodIn_app (goodIn_app (goodIn_c zc_wsX0_whyNot_in [(1, 10), (1, 11), (0, 23), (1, 0), (1, 1), (1, 12), (1, 13), (1, 14), (1, 8), (1, 15), (1, 16), (1, 17), (1, 18), (1, 19), (1, 20), (1, 21), (1, 22), (1, 23), (2, 0), (2, 1), (2, 2), (2, 3), (2, 4), (2, 5)] rfl (by decide +kernel)) (goodIn_app (goodIn_c zc_wsX0_whyNot_in [(2, 6), (2, 7), (2, 8), (2, 9), (2, 10), (2, 11), (2, 12), (2, 13), (2, 14), (2, 15), (1, 3), (1, 4), (2, 16), (2, 17), (2, 18), (2, 19), (2, 20), (2, 21), (2, 22), (2, 23), (3, 0), (3, 1), (3, 2), (3, 3)] rfl (by decide +kernel)) (goodIn_c zc_wsX0_whyNot_in [(3, 4)] rfl (by decide +kernel)))) (goodIn_sub zB_X0_whyNot_X40 zgw_X40)) (goodIn_sub zB_X0_whyNot_X60 zgw_X60))
set_option maxRecDepth 100000 in
theorem gX0_whyNot_X6_lowest : GoodIn wsX0_whyNot (wsV RX0 85 RX6 yX6_lowest wsX6_lowest) := goodIn_app (goodIn_r _ [30, 31, 32, 33] rfl (by decide +kernel)) ggX0_whyNot_X6_lowest
set_option maxRecDepth 100000 in
theorem ggX0_whyNot_X6_highest : GoodIn wsX0_whyNot wsX6_highest := goodIn_hd (goodIn_c zc_wsX0_whyNot_in [(3, 8)] rfl (by decide +kernel)) (goodIn_app (goodIn_app (goodIn_app (goodIn_c zc_wsX0_whyNot_in [(1, 10), (3, 4), (1, 3), (1, 0), (1, 4), (2, 5), (2, 6), (2, 7), (1, 8), (2, 8), (2, 9), (1, 17), (1, 18), (1, 19), (1, 20), (1, 21), (1, 22), (1, 23), (2, 0), (2, 1), (2, 2), (2, 3), (2, 4), (1, 12)] rfl (by decide +kernel)) (goodIn_app (goodIn_c zc_wsX0_whyNot_in [(1, 13), (1, 14), (1, 15), (1, 16), (2, 10), (2, 11), (2, 12), (2, 13), (2, 14), (0, 23), (1, 1), (2, 15), (2, 16), (2, 17), (2, 18), (2, 19), (2, 20), (2, 21), (2, 22), (2, 23), (3, 0), (3, 1), (3, 2), (3, 3)] rfl (by decide +kernel)) (goodIn_c zc_wsX0_whyNot_in [(1, 11)] rfl (by decide +kernel)))) (goodIn_sub zB_X0_whyNot_X40 zgw_X40)) (goodIn_sub zB_X0_whyNot_X60 zgw_X60))
set_option maxRecDepth 100000 in
theorem gX0_whyNot_X6_highest : GoodIn wsX0_whyNot (wsV RX0 89 RX6 yX6_highest wsX6_highest) := goodIn_app (goodIn_r _ [78, 79, 80, 33] rfl (by decide +kernel)) ggX0_whyNot_X6_highest
theorem zB_X0_whyNot_X90 : ∀ w ∈ wsX90, w ∈ wsX0_whyNot := fun _ h => List.mem_cons_of_mem _ (List.mem_append_left _ (List.mem_append_left _ (List.mem_append_left _ (List.mem_append_left _ (List.mem_append_left _ (List.mem_append_right _ h))))))
theorem zB_X0_whyNot_X20 : ∀ w ∈ wsX20, w ∈ wsX0_whyNot := fun _ h => List.mem_cons_of_mem _ (List.mem_append_left _ (List.mem_append_left _ (List.mem_append_left _ (List.mem_append_left _ (List.mem_append_right _ h)))))
theorem zB_X0_whyNot_X70 : ∀ w ∈ wsX70, w ∈ wsX0_whyNot := fun _ h => List.mem_cons_of_mem _ (List.mem_append_left _ (List.mem_append_right _ h))
set_option maxRecDepth 100000 in
theorem ggX0_whyNot_X7_errorOf : GoodIn wsX0_whyNot wsX7_errorOf := goodIn_hd (goodIn_c zc_wsX0_whyNot_in [(3, 13)] rfl (by decide +kernel)) (goodIn_app (goodIn_app (goodIn_app (goodIn_app (goodIn_app (goodIn_app (goodIn_c zc_wsX0_whyNot_in [(3, 14), (3, 15), (3, 16), (1, 3), (1, 0), (1, 4), (3, 17), (3, 18), (3, 19), (3, 20), (3, 21), (0, 13), (3, 22), (3, 23), (4, 0), (4, 1), (4, 2), (4, 3), (4, 4), (4, 5), (4, 6), (0, 15), (4, 7), (4, 8)] rfl (by decide +kernel)) (goodIn_app (goodIn_c zc_wsX0_whyNot_in [(4, 9), (4, 10), (3, 12), (4, 11), (4, 12), (4, 13), (1, 18), (1, 19), (1, 20), (1, 21), (1, 22), (1, 23), (4, 14), (2, 1), (2, 2), (2, 3), (2, 4), (4, 15), (2, 11), (4, 16), (4, 17), (4, 18), (4, 19), (1, 8)] rfl (by decide +kernel)) (goodIn_c zc_wsX0_whyNot_in [(4, 20), (4, 21), (4, 22), (4, 23), (1, 16), (2, 9), (3, 4), (1, 17), (2, 0)] rfl (by decide +kernel)))) (goodIn_sub zB_X0_whyNot_X90 zgw_X90)) (goodIn_sub zB_X0_whyNot_X40 zgw_X40)) (goodIn_sub zB_X0_whyNot_X20 zgw_X20)) (goodIn_sub zB_X0_whyNot_X70 zgw_X70)) (goodIn_sub zB_X0_whyNot_X60 zgw_X60))
set_option maxRecDepth 100000 in
theorem gX0_whyNot_X7_errorOf : GoodIn wsX0_whyNot (wsV RX0 92 RX7 yX7_errorOf wsX7_errorOf) := goodIn_app (goodIn_r _ [82, 83, 84, 85] rfl (by decide +kernel)) ggX0_whyNot_X7_errorOf
set_option maxRecDepth 100000 in
theorem ggX0_whyNot_X6_amountOf : GoodIn wsX0_whyNot wsX6_amountOf := goodIn_r _ [124, 41, 118, 119, 25, 120, 58, 77, 28, 29, 159, 160, 161] rfl (by decide +kernel)
set_option maxRecDepth 100000 in
theorem gX0_whyNot_X6_amountOf : GoodIn wsX0_whyNot (wsV RX0 96 RX6 yX6_amountOf wsX6_amountOf) := goodIn_app (goodIn_r _ [121, 122, 123, 33] rfl (by decide +kernel)) ggX0_whyNot_X6_amountOf
set_option maxRecDepth 100000 in
theorem ggX0_whyNot_X9_mostOf : GoodIn wsX0_whyNot wsX9_mostOf := goodIn_r _ [128, 16, 129, 139, 140, 141, 142, 143, 144, 145, 146, 147] rfl (by decide +kernel)
set_option maxRecDepth 100000 in
theorem gX0_whyNot_X9_mostOf : GoodIn wsX0_whyNot (wsV RX0 100 RX9 yX9_mostOf wsX9_mostOf) := goodIn_app (goodIn_r _ [125, 126, 127, 14] rfl (by decide +kernel)) ggX0_whyNot_X9_mostOf
set_option maxRecDepth 100000 in
theorem ggX0_whyNot_X9_isAnswer : GoodIn wsX0_whyNot wsX9_isAnswer := goodIn_hd (goodIn_c zc_wsX0_whyNot_in [(5, 12)] rfl (by decide +kernel)) (goodIn_app (goodIn_app (goodIn_c zc_wsX0_whyNot_in [(3, 23), (5, 13), (5, 14), (5, 15), (5, 16), (0, 13), (5, 17), (4, 0)] rfl (by decide +kernel)) (goodIn_sub zB_X0_whyNot_X90 zgw_X90)) (goodIn_sub zB_X0_whyNot_X40 zgw_X40))
set_option maxRecDepth 100000 in
theorem gX0_whyNot_X9_isAnswer : GoodIn wsX0_whyNot (wsV RX0 104 RX9 yX9_isAnswer wsX9_isAnswer) := goodIn_app (goodIn_r _ [130, 131, 132, 14] rfl (by decide +kernel)) ggX0_whyNot_X9_isAnswer
set_option maxRecDepth 100000 in
theorem ggX1_init_X7_init : GoodIn wsX1_init wsX7_init := goodIn_r _ [18, 19, 2, 3, 20, 21, 22, 23, 24] rfl (by decide +kernel)
set_option maxRecDepth 100000 in
theorem gX1_init_X7_init_n11 : GoodIn wsX1_init (wsX7_init) := ggX1_init_X7_init
noncomputable def zc_wsX1_search : List (List Cond) := [wsX1_search_r1, wsX1_search_r2, wsX1_search_r3, wsX1_search_r4, wsX1_search_r5, wsX1_search_r6, wsX1_search_r7, wsX90, wsX40, wsX20, wsX10, wsX70, wsX60]
set_option maxRecDepth 20000 in
theorem zc_wsX1_search_in : ∀ l ∈ zc_wsX1_search, ∀ w ∈ l, w ∈ wsX1_search := by
  intro l hl
  unfold zc_wsX1_search at hl
  rcases List.mem_cons.mp hl with e | hl
  · rw [e]
    exact fun w h => List.mem_cons_of_mem _ (List.mem_append_left _ (List.mem_append_left _ (List.mem_append_left _ (List.mem_append_left _ (List.mem_append_left _ (List.mem_append_left _ (List.mem_append_left _ h)))))))
  rcases List.mem_cons.mp hl with e | hl
  · rw [e]
    exact fun w h => List.mem_cons_of_mem _ (List.mem_append_left _ (List.mem_append_left _ (List.mem_append_left _ (List.mem_append_left _ (List.mem_append_left _ (List.mem_append_left _ (List.mem_append_right _ (List.mem_append_left _ h))))))))
  rcases List.mem_cons.mp hl with e | hl
  · rw [e]
    exact fun w h => List.mem_cons_of_mem _ (List.mem_append_left _ (List.mem_append_left _ (List.mem_append_left _ (List.mem_append_left _ (List.mem_append_left _ (List.mem_append_left _ (List.mem_append_right _ (List.mem_append_right _ (List.mem_append_left _ h)))))))))
  rcases List.mem_cons.mp hl with e | hl
  · rw [e]
    exact fun w h => List.mem_cons_of_mem _ (List.mem_append_left _ (List.mem_append_left _ (List.mem_append_left _ (List.mem_append_left _ (List.mem_append_left _ (List.mem_append_left _ (List.mem_append_right _ (List.mem_append_right _ (List.mem_append_right _ (List.mem_append_left _ h))))))))))
  rcases List.mem_cons.mp hl with e | hl
  · rw [e]
    exact fun w h => List.mem_cons_of_mem _ (List.mem_append_left _ (List.mem_append_left _ (List.mem_append_left _ (List.mem_append_left _ (List.mem_append_left _ (List.mem_append_left _ (List.mem_append_right _ (List.mem_append_right _ (List.mem_append_right _ (List.mem_append_right _ (List.mem_append_left _ h)))))))))))
  rcases List.mem_cons.mp hl with e | hl
  · rw [e]
    exact fun w h => List.mem_cons_of_mem _ (List.mem_append_left _ (List.mem_append_left _ (List.mem_append_left _ (List.mem_append_left _ (List.mem_append_left _ (List.mem_append_left _ (List.mem_append_right _ (List.mem_append_right _ (List.mem_append_right _ (List.mem_append_right _ (List.mem_append_right _ (List.mem_append_left _ h))))))))))))
  rcases List.mem_cons.mp hl with e | hl
  · rw [e]
    exact fun w h => List.mem_cons_of_mem _ (List.mem_append_left _ (List.mem_append_left _ (List.mem_append_left _ (List.mem_append_left _ (List.mem_append_left _ (List.mem_append_left _ (List.mem_append_right _ (List.mem_append_right _ (List.mem_append_right _ (List.mem_append_right _ (List.mem_append_right _ (List.mem_append_right _ h))))))))))))
  rcases List.mem_cons.mp hl with e | hl
  · rw [e]
    exact fun w h => List.mem_cons_of_mem _ (List.mem_append_left _ (List.mem_append_left _ (List.mem_append_left _ (List.mem_append_left _ (List.mem_append_left _ (List.mem_append_right _ h))))))
  rcases List.mem_cons.mp hl with e | hl
  · rw [e]
    exact fun w h => List.mem_cons_of_mem _ (List.mem_append_left _ (List.mem_append_left _ (List.mem_append_left _ (List.mem_append_left _ (List.mem_append_right _ h)))))
  rcases List.mem_cons.mp hl with e | hl
  · rw [e]
    exact fun w h => List.mem_cons_of_mem _ (List.mem_append_left _ (List.mem_append_left _ (List.mem_append_left _ (List.mem_append_right _ h))))
  rcases List.mem_cons.mp hl with e | hl
  · rw [e]
    exact fun w h => List.mem_cons_of_mem _ (List.mem_append_left _ (List.mem_append_left _ (List.mem_append_right _ h)))
  rcases List.mem_cons.mp hl with e | hl
  · rw [e]
    exact fun w h => List.mem_cons_of_mem _ (List.mem_append_left _ (List.mem_append_right _ h))
  rcases List.mem_cons.mp hl with e | hl
  · rw [e]
    exact fun w h => List.mem_cons_of_mem _ (List.mem_append_right _ h)
  cases hl
theorem zB_X1_search_X90 : ∀ w ∈ wsX90, w ∈ wsX1_search := fun _ h => List.mem_cons_of_mem _ (List.mem_append_left _ (List.mem_append_left _ (List.mem_append_left _ (List.mem_append_left _ (List.mem_append_left _ (List.mem_append_right _ h))))))
theorem zB_X1_search_X40 : ∀ w ∈ wsX40, w ∈ wsX1_search := fun _ h => List.mem_cons_of_mem _ (List.mem_append_left _ (List.mem_append_left _ (List.mem_append_left _ (List.mem_append_left _ (List.mem_append_right _ h)))))
theorem zB_X1_search_X20 : ∀ w ∈ wsX20, w ∈ wsX1_search := fun _ h => List.mem_cons_of_mem _ (List.mem_append_left _ (List.mem_append_left _ (List.mem_append_left _ (List.mem_append_right _ h))))
set_option maxRecDepth 100000 in
theorem ggX1_search_X9_hasChoice : GoodIn wsX1_search wsX9_hasChoice := goodIn_hd (goodIn_c zc_wsX1_search_in [(0, 11)] rfl (by decide +kernel)) (goodIn_app (goodIn_app (goodIn_app (goodIn_c zc_wsX1_search_in [(0, 12), (0, 13), (0, 14), (0, 15)] rfl (by decide +kernel)) (goodIn_sub zB_X1_search_X90 zgw_X90)) (goodIn_sub zB_X1_search_X40 zgw_X40)) (goodIn_sub zB_X1_search_X20 zgw_X20))
set_option maxRecDepth 100000 in
theorem gX1_search_X9_hasChoice : GoodIn wsX1_search (wsV RX1 71 RX9 yX9_hasChoice wsX9_hasChoice) := goodIn_app (goodIn_r _ [8, 9, 10, 11] rfl (by decide +kernel)) ggX1_search_X9_hasChoice
theorem zB_X1_search_X10 : ∀ w ∈ wsX10, w ∈ wsX1_search := fun _ h => List.mem_cons_of_mem _ (List.mem_append_left _ (List.mem_append_left _ (List.mem_append_right _ h)))
theorem zgw_X10 : wsX10.all goodWord = true := by decide +kernel
theorem zB_X1_search_X70 : ∀ w ∈ wsX70, w ∈ wsX1_search := fun _ h => List.mem_cons_of_mem _ (List.mem_append_left _ (List.mem_append_right _ h))
theorem zB_X1_search_X60 : ∀ w ∈ wsX60, w ∈ wsX1_search := fun _ h => List.mem_cons_of_mem _ (List.mem_append_right _ h)
set_option maxRecDepth 100000 in
theorem ggX1_search_X1_searchAll : GoodIn wsX1_search wsX1_searchAll := goodIn_hd (goodIn_c zc_wsX1_search_in [(0, 20)] rfl (by decide +kernel)) (goodIn_app (goodIn_app (goodIn_app (goodIn_app (goodIn_app (goodIn_app (goodIn_app (goodIn_c zc_wsX1_search_in [(0, 2), (0, 3), (0, 21), (0, 0), (0, 1), (0, 22), (0, 23), (1, 0), (1, 1), (1, 2), (1, 3), (1, 4), (1, 5), (1, 6), (1, 7), (1, 8), (1, 9), (1, 10), (1, 11), (0, 19), (1, 12), (1, 13), (1, 14), (1, 15)] rfl (by decide +kernel)) (goodIn_app (goodIn_c zc_wsX1_search_in [(1, 16), (1, 17), (1, 18), (1, 19), (1, 20), (1, 21), (1, 22), (1, 23), (2, 0), (2, 1), (2, 2), (2, 3), (2, 4), (2, 5), (2, 6), (2, 7), (2, 8), (2, 9), (2, 10), (2, 11), (2, 12), (2, 13), (2, 14), (2, 15)] rfl (by decide +kernel)) (goodIn_app (goodIn_c zc_wsX1_search_in [(2, 16), (2, 17), (2, 18), (2, 19), (2, 20), (2, 21), (2, 22), (2, 23), (3, 0), (0, 10), (3, 1), (0, 12), (0, 13), (0, 14), (3, 2), (3, 3), (3, 4), (3, 5), (3, 6), (3, 7), (3, 8), (3, 9), (3, 10), (3, 11)] rfl (by decide +kernel)) (goodIn_app (goodIn_c zc_wsX1_search_in [(3, 12), (3, 13), (3, 14), (3, 15), (3, 16), (3, 17), (3, 18), (3, 19), (3, 20), (3, 21), (3, 22), (3, 23), (4, 0), (4, 1), (4, 2), (4, 3), (4, 4), (4, 5), (4, 6), (4, 7), (4, 8), (4, 9), (4, 10), (4, 11)] rfl (by decide +kernel)) (goodIn_app (goodIn_c zc_wsX1_search_in [(4, 12), (4, 13), (4, 14), (4, 15), (4, 16), (4, 17), (4, 18), (4, 19), (4, 20), (4, 21), (4, 22), (4, 23), (5, 0), (5, 1), (5, 2), (5, 3), (5, 4), (5, 5), (5, 6), (5, 7), (5, 8), (5, 9), (5, 10), (5, 11)] rfl (by decide +kernel)) (goodIn_c zc_wsX1_search_in [(5, 12), (5, 13), (5, 14), (5, 15), (5, 16), (5, 17), (5, 18), (5, 19), (5, 20), (5, 21), (5, 22), (5, 23), (6, 0), (6, 1), (6, 2), (6, 3), (6, 4), (0, 5), (6, 5), (0, 6), (6, 6), (6, 7)] rfl (by decide +kernel))))))) (goodIn_sub zB_X1_search_X90 zgw_X90)) (goodIn_sub zB_X1_search_X20 zgw_X20)) (goodIn_sub zB_X1_search_X40 zgw_X40)) (goodIn_sub zB_X1_search_X10 zgw_X10)) (goodIn_sub zB_X1_search_X70 zgw_X70)) (goodIn_sub zB_X1_search_X60 zgw_X60))
set_option maxRecDepth 100000 in
theorem gX1_search_X1_searchAll : GoodIn wsX1_search (wsV RX1 75 RX1 yX1_searchAll wsX1_searchAll) := goodIn_app (goodIn_r _ [17, 18, 19, 20] rfl (by decide +kernel)) ggX1_search_X1_searchAll
set_option maxRecDepth 100000 in
theorem ggX1_searchAll_X4_countAnswers : GoodIn wsX1_searchAll wsX4_countAnswers := goodIn_r _ [14, 15, 16, 158, 159, 160, 161, 162, 163, 164, 165, 166, 167] rfl (by decide +kernel)
set_option maxRecDepth 100000 in
theorem gX1_searchAll_X4_countAnswers : GoodIn wsX1_searchAll (wsV RX1 82 RX4 yX4_countAnswers wsX4_countAnswers) := goodIn_app (goodIn_r _ [10, 11, 12, 13] rfl (by decide +kernel)) ggX1_searchAll_X4_countAnswers
noncomputable def zc_wsX1_searchAll : List (List Cond) := [wsX1_searchAll_r1, wsX1_searchAll_r2, wsX1_searchAll_r3, wsX1_searchAll_r4, wsX1_searchAll_r5, wsX1_searchAll_r6, wsX90, wsX20, wsX40, wsX10, wsX70, wsX60]
set_option maxRecDepth 20000 in
theorem zc_wsX1_searchAll_in : ∀ l ∈ zc_wsX1_searchAll, ∀ w ∈ l, w ∈ wsX1_searchAll := by
  intro l hl
  unfold zc_wsX1_searchAll at hl
  rcases List.mem_cons.mp hl with e | hl
  · rw [e]
    exact fun w h => List.mem_cons_of_mem _ (List.mem_append_left _ (List.mem_append_left _ (List.mem_append_left _ (List.mem_append_left _ (List.mem_append_left _ (List.mem_append_left _ (List.mem_append_left _ h)))))))
  rcases List.mem_cons.mp hl with e | hl
  · rw [e]
    exact fun w h => List.mem_cons_of_mem _ (List.mem_append_left _ (List.mem_append_left _ (List.mem_append_left _ (List.mem_append_left _ (List.mem_append_left _ (List.mem_append_left _ (List.mem_append_right _ (List.mem_append_left _ h))))))))
  rcases List.mem_cons.mp hl with e | hl
  · rw [e]
    exact fun w h => List.mem_cons_of_mem _ (List.mem_append_left _ (List.mem_append_left _ (List.mem_append_left _ (List.mem_append_left _ (List.mem_append_left _ (List.mem_append_left _ (List.mem_append_right _ (List.mem_append_right _ (List.mem_append_left _ h)))))))))
  rcases List.mem_cons.mp hl with e | hl
  · rw [e]
    exact fun w h => List.mem_cons_of_mem _ (List.mem_append_left _ (List.mem_append_left _ (List.mem_append_left _ (List.mem_append_left _ (List.mem_append_left _ (List.mem_append_left _ (List.mem_append_right _ (List.mem_append_right _ (List.mem_append_right _ (List.mem_append_left _ h))))))))))
  rcases List.mem_cons.mp hl with e | hl
  · rw [e]
    exact fun w h => List.mem_cons_of_mem _ (List.mem_append_left _ (List.mem_append_left _ (List.mem_append_left _ (List.mem_append_left _ (List.mem_append_left _ (List.mem_append_left _ (List.mem_append_right _ (List.mem_append_right _ (List.mem_append_right _ (List.mem_append_right _ (List.mem_append_left _ h)))))))))))
  rcases List.mem_cons.mp hl with e | hl
  · rw [e]
    exact fun w h => List.mem_cons_of_mem _ (List.mem_append_left _ (List.mem_append_left _ (List.mem_append_left _ (List.mem_append_left _ (List.mem_append_left _ (List.mem_append_left _ (List.mem_append_right _ (List.mem_append_right _ (List.mem_append_right _ (List.mem_append_right _ (List.mem_append_right _ h)))))))))))
  rcases List.mem_cons.mp hl with e | hl
  · rw [e]
    exact fun w h => List.mem_cons_of_mem _ (List.mem_append_left _ (List.mem_append_left _ (List.mem_append_left _ (List.mem_append_left _ (List.mem_append_left _ (List.mem_append_right _ h))))))
  rcases List.mem_cons.mp hl with e | hl
  · rw [e]
    exact fun w h => List.mem_cons_of_mem _ (List.mem_append_left _ (List.mem_append_left _ (List.mem_append_left _ (List.mem_append_left _ (List.mem_append_right _ h)))))
  rcases List.mem_cons.mp hl with e | hl
  · rw [e]
    exact fun w h => List.mem_cons_of_mem _ (List.mem_append_left _ (List.mem_append_left _ (List.mem_append_left _ (List.mem_append_right _ h))))
  rcases List.mem_cons.mp hl with e | hl
  · rw [e]
    exact fun w h => List.mem_cons_of_mem _ (List.mem_append_left _ (List.mem_append_left _ (List.mem_append_right _ h)))
  rcases List.mem_cons.mp hl with e | hl
  · rw [e]
    exact fun w h => List.mem_cons_of_mem _ (List.mem_append_left _ (List.mem_append_right _ h))
  rcases List.mem_cons.mp hl with e | hl
  · rw [e]
    exact fun w h => List.mem_cons_of_mem _ (List.mem_append_right _ h)
  cases hl
theorem zB_X1_searchAll_X10 : ∀ w ∈ wsX10, w ∈ wsX1_searchAll := fun _ h => List.mem_cons_of_mem _ (List.mem_append_left _ (List.mem_append_left _ (List.mem_append_right _ h)))
set_option maxRecDepth 100000 in
theorem ggX1_searchAll_X1_makeRoom : GoodIn wsX1_searchAll wsX1_makeRoom := goodIn_hd (goodIn_c zc_wsX1_searchAll_in [(0, 20)] rfl (by decide +kernel)) (goodIn_app (goodIn_c zc_wsX1_searchAll_in [(0, 21), (0, 22), (0, 23), (1, 0), (1, 1), (1, 2), (0, 5)] rfl (by decide +kernel)) (goodIn_sub zB_X1_searchAll_X10 zgw_X10))
set_option maxRecDepth 100000 in
theorem gX1_searchAll_X1_makeRoom : GoodIn wsX1_searchAll (wsV RX1 89 RX1 yX1_makeRoom wsX1_makeRoom) := goodIn_app (goodIn_r _ [17, 18, 19, 20] rfl (by decide +kernel)) ggX1_searchAll_X1_makeRoom
theorem zB_X1_searchAll_X90 : ∀ w ∈ wsX90, w ∈ wsX1_searchAll := fun _ h => List.mem_cons_of_mem _ (List.mem_append_left _ (List.mem_append_left _ (List.mem_append_left _ (List.mem_append_left _ (List.mem_append_left _ (List.mem_append_right _ h))))))
theorem zB_X1_searchAll_X20 : ∀ w ∈ wsX20, w ∈ wsX1_searchAll := fun _ h => List.mem_cons_of_mem _ (List.mem_append_left _ (List.mem_append_left _ (List.mem_append_left _ (List.mem_append_left _ (List.mem_append_right _ h)))))
set_option maxRecDepth 100000 in
theorem ggX1_searchAll_X1_unfold : GoodIn wsX1_searchAll wsX1_unfold := goodIn_hd (goodIn_c zc_wsX1_searchAll_in [(1, 5)] rfl (by decide +kernel)) (goodIn_app (goodIn_app (goodIn_c zc_wsX1_searchAll_in [(0, 0), (1, 6), (1, 7), (0, 2)] rfl (by decide +kernel)) (goodIn_sub zB_X1_searchAll_X90 zgw_X90)) (goodIn_sub zB_X1_searchAll_X20 zgw_X20))
set_option maxRecDepth 100000 in
theorem gX1_searchAll_X1_unfold : GoodIn wsX1_searchAll (va_wsS RX1 93 yX1_unfold wsX1_unfold) := goodIn_app (goodIn_r _ [28, 29, 20] rfl (by decide +kernel)) ggX1_searchAll_X1_unfold
theorem zB_X1_searchAll_X70 : ∀ w ∈ wsX70, w ∈ wsX1_searchAll := fun _ h => List.mem_cons_of_mem _ (List.mem_append_left _ (List.mem_append_right _ h))
theorem zB_X1_searchAll_X40 : ∀ w ∈ wsX40, w ∈ wsX1_searchAll := fun _ h => List.mem_cons_of_mem _ (List.mem_append_left _ (List.mem_append_left _ (List.mem_append_left _ (List.mem_append_right _ h))))
theorem zB_X1_searchAll_X60 : ∀ w ∈ wsX60, w ∈ wsX1_searchAll := fun _ h => List.mem_cons_of_mem _ (List.mem_append_right _ h)
set_option maxRecDepth 100000 in
theorem ggX1_searchAll_X7_reckon : GoodIn wsX1_searchAll wsX7_reckon := goodIn_hd (goodIn_c zc_wsX1_searchAll_in [(1, 12)] rfl (by decide +kernel)) (goodIn_app (goodIn_app (goodIn_app (goodIn_app (goodIn_app (goodIn_app (goodIn_c zc_wsX1_searchAll_in [(1, 13), (1, 14), (1, 15), (1, 16), (1, 17), (1, 18), (1, 19), (1, 20), (1, 21), (1, 11), (1, 22), (1, 23), (2, 0), (2, 1), (2, 2), (2, 3), (2, 4), (2, 5), (2, 6), (2, 7), (2, 8), (2, 9), (2, 10), (2, 11)] rfl (by decide +kernel)) (goodIn_app (goodIn_c zc_wsX1_searchAll_in [(2, 12), (2, 13), (2, 14), (2, 15), (2, 16), (2, 17), (2, 18), (2, 19), (2, 20), (2, 21), (2, 22), (2, 23), (3, 0), (3, 1), (3, 2), (3, 3), (0, 12), (3, 4), (0, 14), (3, 5), (3, 6), (3, 7), (3, 8), (3, 9)] rfl (by decide +kernel)) (goodIn_app (goodIn_c zc_wsX1_searchAll_in [(3, 10), (3, 11), (3, 12), (3, 13), (3, 14), (3, 15), (3, 16), (3, 17), (3, 18), (3, 19), (3, 20), (3, 21), (3, 22), (3, 23), (4, 0), (4, 1), (4, 2), (4, 3), (4, 4), (4, 5), (4, 6), (4, 7), (4, 8), (4, 9)] rfl (by decide +kernel)) (goodIn_c zc_wsX1_searchAll_in [(4, 10), (4, 11), (4, 12), (4, 13), (4, 14), (4, 15), (4, 16), (4, 17), (4, 18), (4, 19), (4, 20)] rfl (by decide +kernel))))) (goodIn_sub zB_X1_searchAll_X70 zgw_X70)) (goodIn_sub zB_X1_searchAll_X90 zgw_X90)) (goodIn_sub zB_X1_searchAll_X40 zgw_X40)) (goodIn_sub zB_X1_searchAll_X20 zgw_X20)) (goodIn_sub zB_X1_searchAll_X60 zgw_X60))
set_option maxRecDepth 100000 in
theorem gX1_searchAll_X7_reckon : GoodIn wsX1_searchAll (wsV RX1 101 RX7 yX7_reckon wsX7_reckon) := goodIn_app (goodIn_r _ [33, 34, 35, 36] rfl (by decide +kernel)) ggX1_searchAll_X7_reckon
set_option maxRecDepth 100000 in
theorem ggX1_searchAll_X9_priceOf : GoodIn wsX1_searchAll wsX9_priceOf := goodIn_hd (goodIn_c zc_wsX1_searchAll_in [(5, 0)] rfl (by decide +kernel)) (goodIn_app (goodIn_app (goodIn_app (goodIn_app (goodIn_c zc_wsX1_searchAll_in [(5, 1), (2, 11), (2, 12), (5, 2), (5, 3), (5, 4), (5, 5), (2, 9), (5, 6), (5, 7), (3, 2), (3, 3), (0, 12), (3, 4), (0, 14), (3, 5), (5, 8), (2, 7), (2, 8), (2, 10), (2, 13), (2, 14), (5, 9), (5, 10)] rfl (by decide +kernel)) (goodIn_c zc_wsX1_searchAll_in [(5, 11), (5, 12), (2, 19)] rfl (by decide +kernel))) (goodIn_sub zB_X1_searchAll_X90 zgw_X90)) (goodIn_sub zB_X1_searchAll_X40 zgw_X40)) (goodIn_sub zB_X1_searchAll_X20 zgw_X20))
set_option maxRecDepth 100000 in
theorem gX1_searchAll_X9_priceOf : GoodIn wsX1_searchAll (wsV RX1 105 RX9 yX9_priceOf wsX9_priceOf) := goodIn_app (goodIn_r _ [118, 119, 120, 58] rfl (by decide +kernel)) ggX1_searchAll_X9_priceOf
set_option maxRecDepth 100000 in
theorem ggX1_searchAll_X1_keep : GoodIn wsX1_searchAll wsX1_keep := goodIn_hd (goodIn_c zc_wsX1_searchAll_in [(5, 16)] rfl (by decide +kernel)) (goodIn_app (goodIn_app (goodIn_app (goodIn_app (goodIn_c zc_wsX1_searchAll_in [(5, 17), (0, 21), (0, 5), (0, 3), (0, 4), (1, 2), (0, 7), (5, 18), (5, 19), (5, 20), (5, 21), (4, 13), (4, 14), (2, 9), (4, 15), (2, 11), (4, 16), (4, 17), (4, 18), (4, 19), (4, 20), (2, 12)] rfl (by decide +kernel)) (goodIn_sub zB_X1_searchAll_X10 zgw_X10)) (goodIn_sub zB_X1_searchAll_X90 zgw_X90)) (goodIn_sub zB_X1_searchAll_X40 zgw_X40)) (goodIn_sub zB_X1_searchAll_X70 zgw_X70))
set_option maxRecDepth 100000 in
theorem gX1_searchAll_X1_keep : GoodIn wsX1_searchAll (wsV RX1 109 RX1 yX1_keep wsX1_keep) := goodIn_app (goodIn_r _ [134, 135, 136, 20] rfl (by decide +kernel)) ggX1_searchAll_X1_keep
theorem zB_X1_keep_X90 : ∀ w ∈ wsX90, w ∈ wsX1_keep := fun _ h => List.mem_cons_of_mem _ (List.mem_append_left _ (List.mem_append_left _ (List.mem_append_right _ h)))
theorem zB_X1_keep_X40 : ∀ w ∈ wsX40, w ∈ wsX1_keep := fun _ h => List.mem_cons_of_mem _ (List.mem_append_left _ (List.mem_append_right _ h))
set_option maxRecDepth 100000 in
theorem ggX1_keep_X9_isAnswer : GoodIn wsX1_keep wsX9_isAnswer := goodIn_hd (goodIn_r _ [15] rfl (by decide +kernel)) (goodIn_app (goodIn_app (goodIn_r _ [16, 17, 18, 19, 20, 14, 21, 22] rfl (by decide +kernel)) (goodIn_sub zB_X1_keep_X90 zgw_X90)) (goodIn_sub zB_X1_keep_X40 zgw_X40))
set_option maxRecDepth 100000 in
theorem gX1_keep_X9_isAnswer : GoodIn wsX1_keep (wsV RX1 117 RX9 yX9_isAnswer wsX9_isAnswer) := goodIn_app (goodIn_r _ [11, 12, 13, 14] rfl (by decide +kernel)) ggX1_keep_X9_isAnswer
set_option maxRecDepth 100000 in
theorem ggX1_leastWithin_X4_countAnswers : GoodIn wsX1_leastWithin wsX4_countAnswers := goodIn_r _ [9, 10, 11, 43, 44, 45, 46, 47, 48, 49, 50, 51, 52] rfl (by decide +kernel)
set_option maxRecDepth 100000 in
theorem gX1_leastWithin_X4_countAnswers : GoodIn wsX1_leastWithin (wsV RX1 82 RX4 yX4_countAnswers wsX4_countAnswers) := goodIn_app (goodIn_r _ [5, 6, 7, 8] rfl (by decide +kernel)) ggX1_leastWithin_X4_countAnswers
theorem zB_X1_leastWithin_X10 : ∀ w ∈ wsX10, w ∈ wsX1_leastWithin := fun _ h => List.mem_cons_of_mem _ (List.mem_append_left _ (List.mem_append_right _ h))
set_option maxRecDepth 100000 in
theorem ggX1_leastWithin_X1_errorAt : GoodIn wsX1_leastWithin wsX1_errorAt := goodIn_hd (goodIn_r _ [16] rfl (by decide +kernel)) (goodIn_app (goodIn_r _ [17, 18, 19] rfl (by decide +kernel)) (goodIn_sub zB_X1_leastWithin_X10 zgw_X10))
set_option maxRecDepth 100000 in
theorem gX1_leastWithin_X1_errorAt : GoodIn wsX1_leastWithin (wsV RX1 130 RX1 yX1_errorAt wsX1_errorAt) := goodIn_app (goodIn_r _ [12, 13, 14, 15] rfl (by decide +kernel)) ggX1_leastWithin_X1_errorAt
set_option maxRecDepth 100000 in
theorem ggX1_drawFront_X4_countAnswers : GoodIn wsX1_drawFront wsX4_countAnswers := goodIn_r _ [14, 15, 16, 55, 56, 57, 58, 59, 60, 61, 62, 63, 64] rfl (by decide +kernel)
set_option maxRecDepth 100000 in
theorem gX1_drawFront_X4_countAnswers : GoodIn wsX1_drawFront (wsV RX1 82 RX4 yX4_countAnswers wsX4_countAnswers) := goodIn_app (goodIn_r _ [10, 11, 12, 13] rfl (by decide +kernel)) ggX1_drawFront_X4_countAnswers
theorem zB_X1_drawFront_X10 : ∀ w ∈ wsX10, w ∈ wsX1_drawFront := fun _ h => List.mem_cons_of_mem _ (List.mem_append_left _ (List.mem_append_left _ (List.mem_append_right _ h)))
set_option maxRecDepth 100000 in
theorem ggX1_drawFront_X1_cheapestBelow : GoodIn wsX1_drawFront wsX1_cheapestBelow := goodIn_hd (goodIn_r _ [21] rfl (by decide +kernel)) (goodIn_app (goodIn_r _ [5, 7, 22, 23, 24, 20, 25, 26, 27, 4] rfl (by decide +kernel)) (goodIn_sub zB_X1_drawFront_X10 zgw_X10))
set_option maxRecDepth 100000 in
theorem gX1_drawFront_X1_cheapestBelow : GoodIn wsX1_drawFront (wsV RX1 137 RX1 yX1_cheapestBelow wsX1_cheapestBelow) := goodIn_app (goodIn_r _ [17, 18, 19, 20] rfl (by decide +kernel)) ggX1_drawFront_X1_cheapestBelow
set_option maxRecDepth 100000 in
theorem ggX1_drawFront_X1_errorAt : GoodIn wsX1_drawFront wsX1_errorAt := goodIn_hd (goodIn_r _ [25] rfl (by decide +kernel)) (goodIn_app (goodIn_r _ [26, 27, 4] rfl (by decide +kernel)) (goodIn_sub zB_X1_drawFront_X10 zgw_X10))
set_option maxRecDepth 100000 in
theorem gX1_drawFront_X1_errorAt : GoodIn wsX1_drawFront (wsV RX1 130 RX1 yX1_errorAt wsX1_errorAt) := goodIn_app (goodIn_r _ [22, 23, 24, 20] rfl (by decide +kernel)) ggX1_drawFront_X1_errorAt
set_option maxRecDepth 100000 in
theorem ggX1_drawFront_X1_countAlike : GoodIn wsX1_drawFront wsX1_countAlike := goodIn_hd (goodIn_r _ [31] rfl (by decide +kernel)) (goodIn_app (goodIn_r _ [5, 7, 22, 23, 24, 20, 25, 26, 27, 4] rfl (by decide +kernel)) (goodIn_sub zB_X1_drawFront_X10 zgw_X10))
set_option maxRecDepth 100000 in
theorem gX1_drawFront_X1_countAlike : GoodIn wsX1_drawFront (wsV RX1 140 RX1 yX1_countAlike wsX1_countAlike) := goodIn_app (goodIn_r _ [28, 29, 30, 20] rfl (by decide +kernel)) ggX1_drawFront_X1_countAlike
theorem zB_X1_cheapestBelow_X10 : ∀ w ∈ wsX10, w ∈ wsX1_cheapestBelow := fun _ h => List.mem_cons_of_mem _ (List.mem_append_right _ h)
set_option maxRecDepth 100000 in
theorem ggX1_cheapestBelow_X1_errorAt : GoodIn wsX1_cheapestBelow wsX1_errorAt := goodIn_hd (goodIn_r _ [7] rfl (by decide +kernel)) (goodIn_app (goodIn_r _ [8, 9, 10] rfl (by decide +kernel)) (goodIn_sub zB_X1_cheapestBelow_X10 zgw_X10))
set_option maxRecDepth 100000 in
theorem gX1_cheapestBelow_X1_errorAt : GoodIn wsX1_cheapestBelow (wsV RX1 130 RX1 yX1_errorAt wsX1_errorAt) := goodIn_app (goodIn_r _ [3, 4, 5, 6] rfl (by decide +kernel)) ggX1_cheapestBelow_X1_errorAt
theorem zB_X1_countAlike_X10 : ∀ w ∈ wsX10, w ∈ wsX1_countAlike := fun _ h => List.mem_cons_of_mem _ (List.mem_append_right _ h)
set_option maxRecDepth 100000 in
theorem ggX1_countAlike_X1_errorAt : GoodIn wsX1_countAlike wsX1_errorAt := goodIn_hd (goodIn_r _ [7] rfl (by decide +kernel)) (goodIn_app (goodIn_r _ [8, 9, 10] rfl (by decide +kernel)) (goodIn_sub zB_X1_countAlike_X10 zgw_X10))
set_option maxRecDepth 100000 in
theorem gX1_countAlike_X1_errorAt : GoodIn wsX1_countAlike (wsV RX1 130 RX1 yX1_errorAt wsX1_errorAt) := goodIn_app (goodIn_r _ [3, 4, 5, 6] rfl (by decide +kernel)) ggX1_countAlike_X1_errorAt
theorem zB_X2_gather_X40 : ∀ w ∈ wsX40, w ∈ wsX2_gather := fun _ h => List.mem_cons_of_mem _ (List.mem_append_right _ h)
theorem zB_X2_gather_X20 : ∀ w ∈ wsX20, w ∈ wsX2_gather := fun _ h => List.mem_cons_of_mem _ (List.mem_append_left _ (List.mem_append_right _ h))
set_option maxRecDepth 100000 in
theorem ggX2_gather_X2_earlierGroup : GoodIn wsX2_gather wsX2_earlierGroup := goodIn_hd (goodIn_r _ [13] rfl (by decide +kernel)) (goodIn_app (goodIn_app (goodIn_r _ [14, 4] rfl (by decide +kernel)) (goodIn_sub zB_X2_gather_X40 zgw_X40)) (goodIn_sub zB_X2_gather_X20 zgw_X20))
set_option maxRecDepth 100000 in
theorem gX2_gather_X2_earlierGroup : GoodIn wsX2_gather (wsV RX2 32 RX2 yX2_earlierGroup wsX2_earlierGroup) := goodIn_app (goodIn_r _ [9, 10, 11, 12] rfl (by decide +kernel)) ggX2_gather_X2_earlierGroup
set_option maxRecDepth 100000 in
theorem ggX2_gather_X2_fix : GoodIn wsX2_gather wsX2_fix := goodIn_r _ [18, 6, 2, 19, 20, 21, 22, 23, 24] rfl (by decide +kernel)
set_option maxRecDepth 100000 in
theorem gX2_gather_X2_fix : GoodIn wsX2_gather (wsV RX2 37 RX2 yX2_fix wsX2_fix) := goodIn_app (goodIn_r _ [15, 16, 17, 12] rfl (by decide +kernel)) ggX2_gather_X2_fix
set_option maxRecDepth 100000 in
theorem ggX3_init_X7_init : GoodIn wsX3_init wsX7_init := goodIn_r _ [19, 20, 2, 3, 21, 22, 23, 24, 25] rfl (by decide +kernel)
set_option maxRecDepth 100000 in
theorem gX3_init_X7_init_n11 : GoodIn wsX3_init (wsX7_init) := ggX3_init_X7_init
noncomputable def zc_wsX3_goByHalves : List (List Cond) := [wsX3_goByHalves_r1, wsX3_goByHalves_r2, wsX3_goByHalves_r3, wsX3_goByHalves_r4, wsX3_goByHalves_r5, wsX3_goByHalves_r6, wsX3_goByHalves_r7, wsX30, wsX90, wsX40, wsX20, wsX70, wsX60]
set_option maxRecDepth 20000 in
theorem zc_wsX3_goByHalves_in : ∀ l ∈ zc_wsX3_goByHalves, ∀ w ∈ l, w ∈ wsX3_goByHalves := by
  intro l hl
  unfold zc_wsX3_goByHalves at hl
  rcases List.mem_cons.mp hl with e | hl
  · rw [e]
    exact fun w h => List.mem_cons_of_mem _ (List.mem_append_left _ (List.mem_append_left _ (List.mem_append_left _ (List.mem_append_left _ (List.mem_append_left _ (List.mem_append_left _ (List.mem_append_left _ h)))))))
  rcases List.mem_cons.mp hl with e | hl
  · rw [e]
    exact fun w h => List.mem_cons_of_mem _ (List.mem_append_left _ (List.mem_append_left _ (List.mem_append_left _ (List.mem_append_left _ (List.mem_append_left _ (List.mem_append_left _ (List.mem_append_right _ (List.mem_append_left _ h))))))))
  rcases List.mem_cons.mp hl with e | hl
  · rw [e]
    exact fun w h => List.mem_cons_of_mem _ (List.mem_append_left _ (List.mem_append_left _ (List.mem_append_left _ (List.mem_append_left _ (List.mem_append_left _ (List.mem_append_left _ (List.mem_append_right _ (List.mem_append_right _ (List.mem_append_left _ h)))))))))
  rcases List.mem_cons.mp hl with e | hl
  · rw [e]
    exact fun w h => List.mem_cons_of_mem _ (List.mem_append_left _ (List.mem_append_left _ (List.mem_append_left _ (List.mem_append_left _ (List.mem_append_left _ (List.mem_append_left _ (List.mem_append_right _ (List.mem_append_right _ (List.mem_append_right _ (List.mem_append_left _ h))))))))))
  rcases List.mem_cons.mp hl with e | hl
  · rw [e]
    exact fun w h => List.mem_cons_of_mem _ (List.mem_append_left _ (List.mem_append_left _ (List.mem_append_left _ (List.mem_append_left _ (List.mem_append_left _ (List.mem_append_left _ (List.mem_append_right _ (List.mem_append_right _ (List.mem_append_right _ (List.mem_append_right _ (List.mem_append_left _ h)))))))))))
  rcases List.mem_cons.mp hl with e | hl
  · rw [e]
    exact fun w h => List.mem_cons_of_mem _ (List.mem_append_left _ (List.mem_append_left _ (List.mem_append_left _ (List.mem_append_left _ (List.mem_append_left _ (List.mem_append_left _ (List.mem_append_right _ (List.mem_append_right _ (List.mem_append_right _ (List.mem_append_right _ (List.mem_append_right _ (List.mem_append_left _ h))))))))))))
  rcases List.mem_cons.mp hl with e | hl
  · rw [e]
    exact fun w h => List.mem_cons_of_mem _ (List.mem_append_left _ (List.mem_append_left _ (List.mem_append_left _ (List.mem_append_left _ (List.mem_append_left _ (List.mem_append_left _ (List.mem_append_right _ (List.mem_append_right _ (List.mem_append_right _ (List.mem_append_right _ (List.mem_append_right _ (List.mem_append_right _ h))))))))))))
  rcases List.mem_cons.mp hl with e | hl
  · rw [e]
    exact fun w h => List.mem_cons_of_mem _ (List.mem_append_left _ (List.mem_append_left _ (List.mem_append_left _ (List.mem_append_left _ (List.mem_append_left _ (List.mem_append_right _ h))))))
  rcases List.mem_cons.mp hl with e | hl
  · rw [e]
    exact fun w h => List.mem_cons_of_mem _ (List.mem_append_left _ (List.mem_append_left _ (List.mem_append_left _ (List.mem_append_left _ (List.mem_append_right _ h)))))
  rcases List.mem_cons.mp hl with e | hl
  · rw [e]
    exact fun w h => List.mem_cons_of_mem _ (List.mem_append_left _ (List.mem_append_left _ (List.mem_append_left _ (List.mem_append_right _ h))))
  rcases List.mem_cons.mp hl with e | hl
  · rw [e]
    exact fun w h => List.mem_cons_of_mem _ (List.mem_append_left _ (List.mem_append_left _ (List.mem_append_right _ h)))
  rcases List.mem_cons.mp hl with e | hl
  · rw [e]
    exact fun w h => List.mem_cons_of_mem _ (List.mem_append_left _ (List.mem_append_right _ h))
  rcases List.mem_cons.mp hl with e | hl
  · rw [e]
    exact fun w h => List.mem_cons_of_mem _ (List.mem_append_right _ h)
  cases hl
theorem zB_X3_goByHalves_X90 : ∀ w ∈ wsX90, w ∈ wsX3_goByHalves := fun _ h => List.mem_cons_of_mem _ (List.mem_append_left _ (List.mem_append_left _ (List.mem_append_left _ (List.mem_append_left _ (List.mem_append_right _ h)))))
theorem zB_X3_goByHalves_X40 : ∀ w ∈ wsX40, w ∈ wsX3_goByHalves := fun _ h => List.mem_cons_of_mem _ (List.mem_append_left _ (List.mem_append_left _ (List.mem_append_left _ (List.mem_append_right _ h))))
theorem zB_X3_goByHalves_X20 : ∀ w ∈ wsX20, w ∈ wsX3_goByHalves := fun _ h => List.mem_cons_of_mem _ (List.mem_append_left _ (List.mem_append_left _ (List.mem_append_right _ h)))
set_option maxRecDepth 100000 in
theorem ggX3_goByHalves_X9_hasChoice : GoodIn wsX3_goByHalves wsX9_hasChoice := goodIn_hd (goodIn_c zc_wsX3_goByHalves_in [(0, 14)] rfl (by decide +kernel)) (goodIn_app (goodIn_app (goodIn_app (goodIn_c zc_wsX3_goByHalves_in [(0, 15), (0, 16), (0, 17), (0, 18)] rfl (by decide +kernel)) (goodIn_sub zB_X3_goByHalves_X90 zgw_X90)) (goodIn_sub zB_X3_goByHalves_X40 zgw_X40)) (goodIn_sub zB_X3_goByHalves_X20 zgw_X20))
set_option maxRecDepth 100000 in
theorem gX3_goByHalves_X9_hasChoice : GoodIn wsX3_goByHalves (wsV RX3 49 RX9 yX9_hasChoice wsX9_hasChoice) := goodIn_app (goodIn_r _ [11, 12, 13, 14] rfl (by decide +kernel)) ggX3_goByHalves_X9_hasChoice
set_option maxRecDepth 100000 in
theorem ggX3_goByHalves_X9_finestFormat : GoodIn wsX3_goByHalves wsX9_finestFormat := goodIn_r _ [23, 24, 25, 173, 174, 175, 176, 177, 178, 179, 180, 181] rfl (by decide +kernel)
set_option maxRecDepth 100000 in
theorem gX3_goByHalves_X9_finestFormat : GoodIn wsX3_goByHalves (wsV RX3 58 RX9 yX9_finestFormat wsX9_finestFormat) := goodIn_app (goodIn_r _ [20, 21, 22, 14] rfl (by decide +kernel)) ggX3_goByHalves_X9_finestFormat
set_option maxRecDepth 100000 in
theorem ggX3_goByHalves_X2_fillFree : GoodIn wsX3_goByHalves wsX2_fillFree := goodIn_r _ [30, 31, 32, 192, 193, 194, 195, 196, 197] rfl (by decide +kernel)
set_option maxRecDepth 100000 in
theorem gX3_goByHalves_X2_fillFree : GoodIn wsX3_goByHalves (wsV RX3 66 RX2 yX2_fillFree wsX2_fillFree) := goodIn_app (goodIn_r _ [26, 27, 28, 29] rfl (by decide +kernel)) ggX3_goByHalves_X2_fillFree
theorem zB_X3_goByHalves_X70 : ∀ w ∈ wsX70, w ∈ wsX3_goByHalves := fun _ h => List.mem_cons_of_mem _ (List.mem_append_left _ (List.mem_append_right _ h))
theorem zB_X3_goByHalves_X60 : ∀ w ∈ wsX60, w ∈ wsX3_goByHalves := fun _ h => List.mem_cons_of_mem _ (List.mem_append_right _ h)
set_option maxRecDepth 100000 in
theorem ggX3_goByHalves_X7_reckon : GoodIn wsX3_goByHalves wsX7_reckon := goodIn_hd (goodIn_c zc_wsX3_goByHalves_in [(1, 12)] rfl (by decide +kernel)) (goodIn_app (goodIn_app (goodIn_app (goodIn_app (goodIn_app (goodIn_app (goodIn_c zc_wsX3_goByHalves_in [(1, 13), (1, 14), (1, 15), (1, 16), (1, 17), (1, 18), (1, 19), (1, 20), (1, 21), (1, 11), (1, 22), (1, 23), (2, 0), (2, 1), (2, 2), (2, 3), (2, 4), (2, 5), (2, 6), (2, 7), (2, 8), (0, 13), (2, 9), (0, 15)] rfl (by decide +kernel)) (goodIn_app (goodIn_c zc_wsX3_goByHalves_in [(0, 16), (0, 17), (2, 10), (2, 11), (2, 12), (2, 13), (2, 14), (0, 23), (1, 0), (2, 15), (2, 16), (2, 17), (2, 18), (2, 19), (2, 20), (2, 21), (2, 22), (2, 23), (3, 0), (3, 1), (3, 2), (3, 3), (3, 4), (3, 5)] rfl (by decide +kernel)) (goodIn_app (goodIn_c zc_wsX3_goByHalves_in [(3, 6), (3, 7), (3, 8), (3, 9), (3, 10), (3, 11), (3, 12), (3, 13), (3, 14), (3, 15), (3, 16), (3, 17), (3, 18), (3, 19), (3, 20), (3, 21), (3, 22), (3, 23), (4, 0), (4, 1), (4, 2), (4, 3), (4, 4), (4, 5)] rfl (by decide +kernel)) (goodIn_c zc_wsX3_goByHalves_in [(4, 6), (4, 7), (4, 8), (4, 9), (4, 10), (4, 11), (4, 12), (4, 13), (4, 14), (4, 15), (4, 16)] rfl (by decide +kernel))))) (goodIn_sub zB_X3_goByHalves_X70 zgw_X70)) (goodIn_sub zB_X3_goByHalves_X90 zgw_X90)) (goodIn_sub zB_X3_goByHalves_X40 zgw_X40)) (goodIn_sub zB_X3_goByHalves_X20 zgw_X20)) (goodIn_sub zB_X3_goByHalves_X60 zgw_X60))
set_option maxRecDepth 100000 in
theorem gX3_goByHalves_X7_reckon : GoodIn wsX3_goByHalves (wsV RX3 79 RX7 yX7_reckon wsX7_reckon) := goodIn_app (goodIn_r _ [33, 34, 35, 36] rfl (by decide +kernel)) ggX3_goByHalves_X7_reckon
set_option maxRecDepth 100000 in
theorem ggX3_goByHalves_X9_priceOf : GoodIn wsX3_goByHalves wsX9_priceOf := goodIn_hd (goodIn_c zc_wsX3_goByHalves_in [(4, 20)] rfl (by decide +kernel)) (goodIn_app (goodIn_app (goodIn_app (goodIn_app (goodIn_c zc_wsX3_goByHalves_in [(4, 21), (0, 15), (0, 16), (4, 22), (4, 23), (5, 0), (5, 1), (0, 13), (5, 2), (5, 3), (2, 20), (2, 21), (2, 22), (2, 23), (3, 0), (3, 1), (5, 4), (2, 7), (2, 8), (2, 9), (0, 17), (2, 10), (5, 5), (5, 6)] rfl (by decide +kernel)) (goodIn_c zc_wsX3_goByHalves_in [(5, 7), (5, 8), (0, 23)] rfl (by decide +kernel))) (goodIn_sub zB_X3_goByHalves_X90 zgw_X90)) (goodIn_sub zB_X3_goByHalves_X40 zgw_X40)) (goodIn_sub zB_X3_goByHalves_X20 zgw_X20))
set_option maxRecDepth 100000 in
theorem gX3_goByHalves_X9_priceOf : GoodIn wsX3_goByHalves (wsV RX3 83 RX9 yX9_priceOf wsX9_priceOf) := goodIn_app (goodIn_r _ [114, 115, 116, 14] rfl (by decide +kernel)) ggX3_goByHalves_X9_priceOf
theorem zB_X3_goByHalves_X30 : ∀ w ∈ wsX30, w ∈ wsX3_goByHalves := fun _ h => List.mem_cons_of_mem _ (List.mem_append_left _ (List.mem_append_left _ (List.mem_append_left _ (List.mem_append_left _ (List.mem_append_left _ (List.mem_append_right _ h))))))
theorem zgw_X30 : wsX30.all goodWord = true := by decide +kernel
set_option maxRecDepth 100000 in
theorem ggX3_goByHalves_X3_halveWith : GoodIn wsX3_goByHalves wsX3_halveWith := goodIn_hd (goodIn_c zc_wsX3_goByHalves_in [(5, 13)] rfl (by decide +kernel)) (goodIn_app (goodIn_app (goodIn_app (goodIn_app (goodIn_app (goodIn_app (goodIn_app (goodIn_c zc_wsX3_goByHalves_in [(5, 14), (5, 15), (5, 16), (0, 5), (5, 17), (5, 18), (5, 19), (5, 12), (5, 20), (0, 2), (5, 21), (5, 22), (0, 4), (5, 23), (6, 0), (6, 1), (6, 2), (6, 3), (6, 4), (6, 5), (6, 6), (6, 7), (0, 3), (0, 8)] rfl (by decide +kernel)) (goodIn_app (goodIn_c zc_wsX3_goByHalves_in [(0, 6), (0, 7), (6, 8), (6, 9), (6, 10), (6, 11), (4, 17), (4, 18), (4, 19), (0, 13), (4, 20), (4, 21), (0, 15), (0, 16), (4, 22), (4, 23), (5, 0), (5, 1), (5, 2), (5, 3), (2, 20), (2, 21), (2, 22), (2, 23)] rfl (by decide +kernel)) (goodIn_app (goodIn_c zc_wsX3_goByHalves_in [(3, 0), (3, 1), (5, 4), (2, 7), (2, 8), (2, 9), (0, 17), (2, 10), (5, 5), (5, 6), (5, 7), (5, 8), (0, 23), (1, 8), (1, 9), (1, 10), (1, 11), (1, 12), (1, 13), (1, 14), (1, 15), (1, 16), (1, 17), (1, 18)] rfl (by decide +kernel)) (goodIn_app (goodIn_c zc_wsX3_goByHalves_in [(1, 19), (1, 20), (1, 21), (1, 22), (1, 23), (2, 0), (2, 1), (2, 2), (2, 3), (2, 4), (2, 5), (2, 6), (2, 11), (2, 12), (2, 13), (2, 14), (1, 0), (2, 15), (2, 16), (2, 17), (2, 18), (2, 19), (3, 2), (3, 3)] rfl (by decide +kernel)) (goodIn_app (goodIn_c zc_wsX3_goByHalves_in [(3, 4), (3, 5), (3, 6), (3, 7), (3, 8), (3, 9), (3, 10), (3, 11), (3, 12), (3, 13), (3, 14), (3, 15), (3, 16), (3, 17), (3, 18), (3, 19), (3, 20), (3, 21), (3, 22), (3, 23), (4, 0), (4, 1), (4, 2), (4, 3)] rfl (by decide +kernel)) (goodIn_c zc_wsX3_goByHalves_in [(4, 4), (4, 5), (4, 6), (4, 7), (4, 8), (4, 9), (4, 10), (4, 11), (4, 12), (4, 13), (4, 14), (4, 15), (4, 16)] rfl (by decide +kernel))))))) (goodIn_sub zB_X3_goByHalves_X30 zgw_X30)) (goodIn_sub zB_X3_goByHalves_X90 zgw_X90)) (goodIn_sub zB_X3_goByHalves_X20 zgw_X20)) (goodIn_sub zB_X3_goByHalves_X40 zgw_X40)) (goodIn_sub zB_X3_goByHalves_X70 zgw_X70)) (goodIn_sub zB_X3_goByHalves_X60 zgw_X60))
set_option maxRecDepth 100000 in
theorem gX3_goByHalves_X3_halveWith : GoodIn wsX3_goByHalves (wsV RX3 93 RX3 yX3_halveWith wsX3_halveWith) := goodIn_app (goodIn_r _ [130, 131, 132, 133] rfl (by decide +kernel)) ggX3_goByHalves_X3_halveWith
noncomputable def zc_wsX3_halveWith : List (List Cond) := [wsX3_halveWith_r1, wsX3_halveWith_r2, wsX3_halveWith_r3, wsX3_halveWith_r4, wsX3_halveWith_r5, wsX3_halveWith_r6, wsX30, wsX90, wsX20, wsX40, wsX70, wsX60]
set_option maxRecDepth 20000 in
theorem zc_wsX3_halveWith_in : ∀ l ∈ zc_wsX3_halveWith, ∀ w ∈ l, w ∈ wsX3_halveWith := by
  intro l hl
  unfold zc_wsX3_halveWith at hl
  rcases List.mem_cons.mp hl with e | hl
  · rw [e]
    exact fun w h => List.mem_cons_of_mem _ (List.mem_append_left _ (List.mem_append_left _ (List.mem_append_left _ (List.mem_append_left _ (List.mem_append_left _ (List.mem_append_left _ (List.mem_append_left _ h)))))))
  rcases List.mem_cons.mp hl with e | hl
  · rw [e]
    exact fun w h => List.mem_cons_of_mem _ (List.mem_append_left _ (List.mem_append_left _ (List.mem_append_left _ (List.mem_append_left _ (List.mem_append_left _ (List.mem_append_left _ (List.mem_append_right _ (List.mem_append_left _ h))))))))
  rcases List.mem_cons.mp hl with e | hl
  · rw [e]
    exact fun w h => List.mem_cons_of_mem _ (List.mem_append_left _ (List.mem_append_left _ (List.mem_append_left _ (List.mem_append_left _ (List.mem_append_left _ (List.mem_append_left _ (List.mem_append_right _ (List.mem_append_right _ (List.mem_append_left _ h)))))))))
  rcases List.mem_cons.mp hl with e | hl
  · rw [e]
    exact fun w h => List.mem_cons_of_mem _ (List.mem_append_left _ (List.mem_append_left _ (List.mem_append_left _ (List.mem_append_left _ (List.mem_append_left _ (List.mem_append_left _ (List.mem_append_right _ (List.mem_append_right _ (List.mem_append_right _ (List.mem_append_left _ h))))))))))
  rcases List.mem_cons.mp hl with e | hl
  · rw [e]
    exact fun w h => List.mem_cons_of_mem _ (List.mem_append_left _ (List.mem_append_left _ (List.mem_append_left _ (List.mem_append_left _ (List.mem_append_left _ (List.mem_append_left _ (List.mem_append_right _ (List.mem_append_right _ (List.mem_append_right _ (List.mem_append_right _ (List.mem_append_left _ h)))))))))))
  rcases List.mem_cons.mp hl with e | hl
  · rw [e]
    exact fun w h => List.mem_cons_of_mem _ (List.mem_append_left _ (List.mem_append_left _ (List.mem_append_left _ (List.mem_append_left _ (List.mem_append_left _ (List.mem_append_left _ (List.mem_append_right _ (List.mem_append_right _ (List.mem_append_right _ (List.mem_append_right _ (List.mem_append_right _ h)))))))))))
  rcases List.mem_cons.mp hl with e | hl
  · rw [e]
    exact fun w h => List.mem_cons_of_mem _ (List.mem_append_left _ (List.mem_append_left _ (List.mem_append_left _ (List.mem_append_left _ (List.mem_append_left _ (List.mem_append_right _ h))))))
  rcases List.mem_cons.mp hl with e | hl
  · rw [e]
    exact fun w h => List.mem_cons_of_mem _ (List.mem_append_left _ (List.mem_append_left _ (List.mem_append_left _ (List.mem_append_left _ (List.mem_append_right _ h)))))
  rcases List.mem_cons.mp hl with e | hl
  · rw [e]
    exact fun w h => List.mem_cons_of_mem _ (List.mem_append_left _ (List.mem_append_left _ (List.mem_append_left _ (List.mem_append_right _ h))))
  rcases List.mem_cons.mp hl with e | hl
  · rw [e]
    exact fun w h => List.mem_cons_of_mem _ (List.mem_append_left _ (List.mem_append_left _ (List.mem_append_right _ h)))
  rcases List.mem_cons.mp hl with e | hl
  · rw [e]
    exact fun w h => List.mem_cons_of_mem _ (List.mem_append_left _ (List.mem_append_right _ h))
  rcases List.mem_cons.mp hl with e | hl
  · rw [e]
    exact fun w h => List.mem_cons_of_mem _ (List.mem_append_right _ h)
  cases hl
theorem zB_X3_halveWith_X90 : ∀ w ∈ wsX90, w ∈ wsX3_halveWith := fun _ h => List.mem_cons_of_mem _ (List.mem_append_left _ (List.mem_append_left _ (List.mem_append_left _ (List.mem_append_left _ (List.mem_append_right _ h)))))
theorem zB_X3_halveWith_X20 : ∀ w ∈ wsX20, w ∈ wsX3_halveWith := fun _ h => List.mem_cons_of_mem _ (List.mem_append_left _ (List.mem_append_left _ (List.mem_append_left _ (List.mem_append_right _ h))))
theorem zB_X3_halveWith_X30 : ∀ w ∈ wsX30, w ∈ wsX3_halveWith := fun _ h => List.mem_cons_of_mem _ (List.mem_append_left _ (List.mem_append_left _ (List.mem_append_left _ (List.mem_append_left _ (List.mem_append_left _ (List.mem_append_right _ h))))))
set_option maxRecDepth 100000 in
theorem ggX3_halveWith_X3_findUnchanged : GoodIn wsX3_halveWith wsX3_findUnchanged := goodIn_hd (goodIn_c zc_wsX3_halveWith_in [(0, 8)] rfl (by decide +kernel)) (goodIn_app (goodIn_app (goodIn_app (goodIn_c zc_wsX3_halveWith_in [(0, 9), (0, 10), (0, 11), (0, 12), (0, 13)] rfl (by decide +kernel)) (goodIn_sub zB_X3_halveWith_X90 zgw_X90)) (goodIn_sub zB_X3_halveWith_X20 zgw_X20)) (goodIn_sub zB_X3_halveWith_X30 zgw_X30))
set_option maxRecDepth 100000 in
theorem gX3_halveWith_X3_findUnchanged : GoodIn wsX3_halveWith (wsV RX3 97 RX3 yX3_findUnchanged wsX3_findUnchanged) := goodIn_app (goodIn_r _ [5, 6, 7, 8] rfl (by decide +kernel)) ggX3_halveWith_X3_findUnchanged
set_option maxRecDepth 100000 in
theorem ggX3_halveWith_X3_addPart : GoodIn wsX3_halveWith wsX3_addPart := goodIn_hd (goodIn_c zc_wsX3_halveWith_in [(0, 17)] rfl (by decide +kernel)) (goodIn_app (goodIn_c zc_wsX3_halveWith_in [(0, 0), (0, 1), (0, 2)] rfl (by decide +kernel)) (goodIn_sub zB_X3_halveWith_X30 zgw_X30))
set_option maxRecDepth 100000 in
theorem gX3_halveWith_X3_addPart : GoodIn wsX3_halveWith (wsV RX3 104 RX3 yX3_addPart wsX3_addPart) := goodIn_app (goodIn_r _ [15, 16, 17, 8] rfl (by decide +kernel)) ggX3_halveWith_X3_addPart
theorem zB_X3_halveWith_X40 : ∀ w ∈ wsX40, w ∈ wsX3_halveWith := fun _ h => List.mem_cons_of_mem _ (List.mem_append_left _ (List.mem_append_left _ (List.mem_append_right _ h)))
theorem zB_X3_halveWith_X70 : ∀ w ∈ wsX70, w ∈ wsX3_halveWith := fun _ h => List.mem_cons_of_mem _ (List.mem_append_left _ (List.mem_append_right _ h))
theorem zB_X3_halveWith_X60 : ∀ w ∈ wsX60, w ∈ wsX3_halveWith := fun _ h => List.mem_cons_of_mem _ (List.mem_append_right _ h)
set_option maxRecDepth 100000 in
theorem ggX3_halveWith_X3_changePart : GoodIn wsX3_halveWith wsX3_changePart := goodIn_hd (goodIn_c zc_wsX3_halveWith_in [(0, 21)] rfl (by decide +kernel)) (goodIn_app (goodIn_app (goodIn_app (goodIn_app (goodIn_app (goodIn_app (goodIn_app (goodIn_c zc_wsX3_halveWith_in [(0, 22), (0, 23), (1, 0), (1, 1), (0, 12), (0, 13), (1, 2), (1, 3), (1, 4), (0, 7), (1, 5), (1, 6), (1, 7), (1, 8), (1, 9), (1, 10), (1, 11), (1, 12), (1, 13), (1, 14), (1, 15), (1, 16), (1, 17), (1, 18)] rfl (by decide +kernel)) (goodIn_app (goodIn_c zc_wsX3_halveWith_in [(1, 19), (1, 20), (1, 21), (1, 22), (1, 23), (2, 0), (2, 1), (2, 2), (2, 3), (2, 4), (2, 5), (2, 6), (2, 7), (2, 8), (2, 9), (2, 10), (2, 11), (2, 12), (2, 13), (2, 14), (2, 15), (2, 16), (2, 17), (2, 18)] rfl (by decide +kernel)) (goodIn_app (goodIn_c zc_wsX3_halveWith_in [(2, 19), (2, 20), (2, 21), (2, 22), (2, 23), (3, 0), (3, 1), (3, 2), (3, 3), (3, 4), (3, 5), (3, 6), (3, 7), (3, 8), (3, 9), (3, 10), (3, 11), (3, 12), (3, 13), (3, 14), (3, 15), (3, 16), (3, 17), (3, 18)] rfl (by decide +kernel)) (goodIn_app (goodIn_c zc_wsX3_halveWith_in [(3, 19), (3, 20), (3, 21), (3, 22), (3, 23), (4, 0), (4, 1), (4, 2), (4, 3), (4, 4), (4, 5), (4, 6), (4, 7), (4, 8), (4, 9), (4, 10), (4, 11), (4, 12), (4, 13), (4, 14), (4, 15), (4, 16), (4, 17), (4, 18)] rfl (by decide +kernel)) (goodIn_c zc_wsX3_halveWith_in [(4, 19), (4, 20), (4, 21), (4, 22), (4, 23), (5, 0), (5, 1), (5, 2), (5, 3), (5, 4), (5, 5), (5, 6), (5, 7), (5, 8), (5, 9), (5, 10), (5, 11), (5, 12)] rfl (by decide +kernel)))))) (goodIn_sub zB_X3_halveWith_X30 zgw_X30)) (goodIn_sub zB_X3_halveWith_X90 zgw_X90)) (goodIn_sub zB_X3_halveWith_X40 zgw_X40)) (goodIn_sub zB_X3_halveWith_X20 zgw_X20)) (goodIn_sub zB_X3_halveWith_X70 zgw_X70)) (goodIn_sub zB_X3_halveWith_X60 zgw_X60))
set_option maxRecDepth 100000 in
theorem gX3_halveWith_X3_changePart : GoodIn wsX3_halveWith (wsV RX3 108 RX3 yX3_changePart wsX3_changePart) := goodIn_app (goodIn_r _ [19, 20, 21, 8] rfl (by decide +kernel)) ggX3_halveWith_X3_changePart
theorem zB_X3_changePart_X30 : ∀ w ∈ wsX30, w ∈ wsX3_changePart := fun _ h => List.mem_cons_of_mem _ (List.mem_append_left _ (List.mem_append_left _ (List.mem_append_left _ (List.mem_append_left _ (List.mem_append_left _ (List.mem_append_right _ h))))))
set_option maxRecDepth 100000 in
theorem ggX3_changePart_X3_setPart : GoodIn wsX3_changePart wsX3_setPart := goodIn_hd (goodIn_r _ [11] rfl (by decide +kernel)) (goodIn_app (goodIn_r _ [1, 6] rfl (by decide +kernel)) (goodIn_sub zB_X3_changePart_X30 zgw_X30))
set_option maxRecDepth 100000 in
theorem gX3_changePart_X3_setPart : GoodIn wsX3_changePart (wsV RX3 118 RX3 yX3_setPart wsX3_setPart) := goodIn_app (goodIn_r _ [7, 8, 9, 10] rfl (by decide +kernel)) ggX3_changePart_X3_setPart
noncomputable def zc_wsX3_changePart : List (List Cond) := [wsX3_changePart_r1, wsX3_changePart_r2, wsX3_changePart_r3, wsX3_changePart_r4, wsX3_changePart_r5, wsX30, wsX90, wsX40, wsX20, wsX70, wsX60]
set_option maxRecDepth 20000 in
theorem zc_wsX3_changePart_in : ∀ l ∈ zc_wsX3_changePart, ∀ w ∈ l, w ∈ wsX3_changePart := by
  intro l hl
  unfold zc_wsX3_changePart at hl
  rcases List.mem_cons.mp hl with e | hl
  · rw [e]
    exact fun w h => List.mem_cons_of_mem _ (List.mem_append_left _ (List.mem_append_left _ (List.mem_append_left _ (List.mem_append_left _ (List.mem_append_left _ (List.mem_append_left _ (List.mem_append_left _ h)))))))
  rcases List.mem_cons.mp hl with e | hl
  · rw [e]
    exact fun w h => List.mem_cons_of_mem _ (List.mem_append_left _ (List.mem_append_left _ (List.mem_append_left _ (List.mem_append_left _ (List.mem_append_left _ (List.mem_append_left _ (List.mem_append_right _ (List.mem_append_left _ h))))))))
  rcases List.mem_cons.mp hl with e | hl
  · rw [e]
    exact fun w h => List.mem_cons_of_mem _ (List.mem_append_left _ (List.mem_append_left _ (List.mem_append_left _ (List.mem_append_left _ (List.mem_append_left _ (List.mem_append_left _ (List.mem_append_right _ (List.mem_append_right _ (List.mem_append_left _ h)))))))))
  rcases List.mem_cons.mp hl with e | hl
  · rw [e]
    exact fun w h => List.mem_cons_of_mem _ (List.mem_append_left _ (List.mem_append_left _ (List.mem_append_left _ (List.mem_append_left _ (List.mem_append_left _ (List.mem_append_left _ (List.mem_append_right _ (List.mem_append_right _ (List.mem_append_right _ (List.mem_append_left _ h))))))))))
  rcases List.mem_cons.mp hl with e | hl
  · rw [e]
    exact fun w h => List.mem_cons_of_mem _ (List.mem_append_left _ (List.mem_append_left _ (List.mem_append_left _ (List.mem_append_left _ (List.mem_append_left _ (List.mem_append_left _ (List.mem_append_right _ (List.mem_append_right _ (List.mem_append_right _ (List.mem_append_right _ h))))))))))
  rcases List.mem_cons.mp hl with e | hl
  · rw [e]
    exact fun w h => List.mem_cons_of_mem _ (List.mem_append_left _ (List.mem_append_left _ (List.mem_append_left _ (List.mem_append_left _ (List.mem_append_left _ (List.mem_append_right _ h))))))
  rcases List.mem_cons.mp hl with e | hl
  · rw [e]
    exact fun w h => List.mem_cons_of_mem _ (List.mem_append_left _ (List.mem_append_left _ (List.mem_append_left _ (List.mem_append_left _ (List.mem_append_right _ h)))))
  rcases List.mem_cons.mp hl with e | hl
  · rw [e]
    exact fun w h => List.mem_cons_of_mem _ (List.mem_append_left _ (List.mem_append_left _ (List.mem_append_left _ (List.mem_append_right _ h))))
  rcases List.mem_cons.mp hl with e | hl
  · rw [e]
    exact fun w h => List.mem_cons_of_mem _ (List.mem_append_left _ (List.mem_append_left _ (List.mem_append_right _ h)))
  rcases List.mem_cons.mp hl with e | hl
  · rw [e]
    exact fun w h => List.mem_cons_of_mem _ (List.mem_append_left _ (List.mem_append_right _ h))
  rcases List.mem_cons.mp hl with e | hl
  · rw [e]
    exact fun w h => List.mem_cons_of_mem _ (List.mem_append_right _ h)
  cases hl
theorem zB_X3_changePart_X90 : ∀ w ∈ wsX90, w ∈ wsX3_changePart := fun _ h => List.mem_cons_of_mem _ (List.mem_append_left _ (List.mem_append_left _ (List.mem_append_left _ (List.mem_append_left _ (List.mem_append_right _ h)))))
theorem zB_X3_changePart_X40 : ∀ w ∈ wsX40, w ∈ wsX3_changePart := fun _ h => List.mem_cons_of_mem _ (List.mem_append_left _ (List.mem_append_left _ (List.mem_append_left _ (List.mem_append_right _ h))))
theorem zB_X3_changePart_X20 : ∀ w ∈ wsX20, w ∈ wsX3_changePart := fun _ h => List.mem_cons_of_mem _ (List.mem_append_left _ (List.mem_append_left _ (List.mem_append_right _ h)))
set_option maxRecDepth 100000 in
theorem ggX3_changePart_X9_priceOf : GoodIn wsX3_changePart wsX9_priceOf := goodIn_hd (goodIn_c zc_wsX3_changePart_in [(0, 15)] rfl (by decide +kernel)) (goodIn_app (goodIn_app (goodIn_app (goodIn_app (goodIn_c zc_wsX3_changePart_in [(0, 16), (0, 17), (0, 18), (0, 19), (0, 20), (0, 21), (0, 22), (0, 14), (0, 23), (1, 0), (1, 1), (1, 2), (1, 3), (1, 4), (1, 5), (1, 6), (1, 7), (1, 8), (1, 9), (1, 10), (1, 11), (1, 12), (1, 13), (1, 14)] rfl (by decide +kernel)) (goodIn_c zc_wsX3_changePart_in [(1, 15), (1, 16), (1, 17)] rfl (by decide +kernel))) (goodIn_sub zB_X3_changePart_X90 zgw_X90)) (goodIn_sub zB_X3_changePart_X40 zgw_X40)) (goodIn_sub zB_X3_changePart_X20 zgw_X20))
set_option maxRecDepth 100000 in
theorem gX3_changePart_X9_priceOf : GoodIn wsX3_changePart (wsV RX3 83 RX9 yX9_priceOf wsX9_priceOf) := goodIn_app (goodIn_r _ [12, 13, 14, 15] rfl (by decide +kernel)) ggX3_changePart_X9_priceOf
theorem zB_X3_changePart_X70 : ∀ w ∈ wsX70, w ∈ wsX3_changePart := fun _ h => List.mem_cons_of_mem _ (List.mem_append_left _ (List.mem_append_right _ h))
theorem zB_X3_changePart_X60 : ∀ w ∈ wsX60, w ∈ wsX3_changePart := fun _ h => List.mem_cons_of_mem _ (List.mem_append_right _ h)
set_option maxRecDepth 100000 in
theorem ggX3_changePart_X7_reckon : GoodIn wsX3_changePart wsX7_reckon := goodIn_hd (goodIn_c zc_wsX3_changePart_in [(1, 22)] rfl (by decide +kernel)) (goodIn_app (goodIn_app (goodIn_app (goodIn_app (goodIn_app (goodIn_app (goodIn_c zc_wsX3_changePart_in [(1, 23), (2, 0), (2, 1), (2, 2), (2, 3), (2, 4), (2, 5), (2, 6), (2, 7), (1, 21), (2, 8), (2, 9), (2, 10), (2, 11), (2, 12), (2, 13), (2, 14), (2, 15), (2, 16), (1, 8), (1, 9), (0, 14), (1, 10), (0, 17)] rfl (by decide +kernel)) (goodIn_app (goodIn_c zc_wsX3_changePart_in [(0, 18), (1, 11), (1, 12), (2, 17), (2, 18), (2, 19), (2, 20), (1, 17), (2, 21), (2, 22), (2, 23), (3, 0), (3, 1), (3, 2), (1, 1), (1, 2), (1, 3), (1, 4), (1, 5), (1, 6), (3, 3), (3, 4), (3, 5), (3, 6)] rfl (by decide +kernel)) (goodIn_app (goodIn_c zc_wsX3_changePart_in [(3, 7), (3, 8), (3, 9), (3, 10), (3, 11), (3, 12), (3, 13), (3, 14), (3, 15), (3, 16), (3, 17), (3, 18), (3, 19), (3, 20), (3, 21), (3, 22), (3, 23), (4, 0), (4, 1), (4, 2), (4, 3), (4, 4), (4, 5), (4, 6)] rfl (by decide +kernel)) (goodIn_c zc_wsX3_changePart_in [(4, 7), (4, 8), (4, 9), (4, 10), (4, 11), (4, 12), (4, 13), (4, 14), (4, 15), (4, 16), (4, 17)] rfl (by decide +kernel))))) (goodIn_sub zB_X3_changePart_X70 zgw_X70)) (goodIn_sub zB_X3_changePart_X90 zgw_X90)) (goodIn_sub zB_X3_changePart_X40 zgw_X40)) (goodIn_sub zB_X3_changePart_X20 zgw_X20)) (goodIn_sub zB_X3_changePart_X60 zgw_X60))
set_option maxRecDepth 100000 in
theorem gX3_changePart_X7_reckon : GoodIn wsX3_changePart (wsV RX3 79 RX7 yX7_reckon wsX7_reckon) := goodIn_app (goodIn_r _ [43, 44, 45, 46] rfl (by decide +kernel)) ggX3_changePart_X7_reckon
set_option maxRecDepth 100000 in
theorem ggX3_lookAround_X11_copyChoice : GoodIn wsX3_lookAround wsX11_copyChoice := goodIn_r _ [14] rfl (by decide +kernel)
set_option maxRecDepth 100000 in
theorem gX3_lookAround_X11_copyChoice_n128 : GoodIn wsX3_lookAround (wsX11_copyChoice) := ggX3_lookAround_X11_copyChoice
noncomputable def zc_wsX3_lookAround : List (List Cond) := [wsX3_lookAround_r1, wsX3_lookAround_r2, wsX3_lookAround_r3, wsX3_lookAround_r4, wsX3_lookAround_r5, wsX30, wsX90, wsX20, wsX40, wsX70, wsX60]
set_option maxRecDepth 20000 in
theorem zc_wsX3_lookAround_in : ∀ l ∈ zc_wsX3_lookAround, ∀ w ∈ l, w ∈ wsX3_lookAround := by
  intro l hl
  unfold zc_wsX3_lookAround at hl
  rcases List.mem_cons.mp hl with e | hl
  · rw [e]
    exact fun w h => List.mem_cons_of_mem _ (List.mem_append_left _ (List.mem_append_left _ (List.mem_append_left _ (List.mem_append_left _ (List.mem_append_left _ (List.mem_append_left _ (List.mem_append_left _ h)))))))
  rcases List.mem_cons.mp hl with e | hl
  · rw [e]
    exact fun w h => List.mem_cons_of_mem _ (List.mem_append_left _ (List.mem_append_left _ (List.mem_append_left _ (List.mem_append_left _ (List.mem_append_left _ (List.mem_append_left _ (List.mem_append_right _ (List.mem_append_left _ h))))))))
  rcases List.mem_cons.mp hl with e | hl
  · rw [e]
    exact fun w h => List.mem_cons_of_mem _ (List.mem_append_left _ (List.mem_append_left _ (List.mem_append_left _ (List.mem_append_left _ (List.mem_append_left _ (List.mem_append_left _ (List.mem_append_right _ (List.mem_append_right _ (List.mem_append_left _ h)))))))))
  rcases List.mem_cons.mp hl with e | hl
  · rw [e]
    exact fun w h => List.mem_cons_of_mem _ (List.mem_append_left _ (List.mem_append_left _ (List.mem_append_left _ (List.mem_append_left _ (List.mem_append_left _ (List.mem_append_left _ (List.mem_append_right _ (List.mem_append_right _ (List.mem_append_right _ (List.mem_append_left _ h))))))))))
  rcases List.mem_cons.mp hl with e | hl
  · rw [e]
    exact fun w h => List.mem_cons_of_mem _ (List.mem_append_left _ (List.mem_append_left _ (List.mem_append_left _ (List.mem_append_left _ (List.mem_append_left _ (List.mem_append_left _ (List.mem_append_right _ (List.mem_append_right _ (List.mem_append_right _ (List.mem_append_right _ h))))))))))
  rcases List.mem_cons.mp hl with e | hl
  · rw [e]
    exact fun w h => List.mem_cons_of_mem _ (List.mem_append_left _ (List.mem_append_left _ (List.mem_append_left _ (List.mem_append_left _ (List.mem_append_left _ (List.mem_append_right _ h))))))
  rcases List.mem_cons.mp hl with e | hl
  · rw [e]
    exact fun w h => List.mem_cons_of_mem _ (List.mem_append_left _ (List.mem_append_left _ (List.mem_append_left _ (List.mem_append_left _ (List.mem_append_right _ h)))))
  rcases List.mem_cons.mp hl with e | hl
  · rw [e]
    exact fun w h => List.mem_cons_of_mem _ (List.mem_append_left _ (List.mem_append_left _ (List.mem_append_left _ (List.mem_append_right _ h))))
  rcases List.mem_cons.mp hl with e | hl
  · rw [e]
    exact fun w h => List.mem_cons_of_mem _ (List.mem_append_left _ (List.mem_append_left _ (List.mem_append_right _ h)))
  rcases List.mem_cons.mp hl with e | hl
  · rw [e]
    exact fun w h => List.mem_cons_of_mem _ (List.mem_append_left _ (List.mem_append_right _ h))
  rcases List.mem_cons.mp hl with e | hl
  · rw [e]
    exact fun w h => List.mem_cons_of_mem _ (List.mem_append_right _ h)
  cases hl
theorem zB_X3_lookAround_X90 : ∀ w ∈ wsX90, w ∈ wsX3_lookAround := fun _ h => List.mem_cons_of_mem _ (List.mem_append_left _ (List.mem_append_left _ (List.mem_append_left _ (List.mem_append_left _ (List.mem_append_right _ h)))))
theorem zB_X3_lookAround_X40 : ∀ w ∈ wsX40, w ∈ wsX3_lookAround := fun _ h => List.mem_cons_of_mem _ (List.mem_append_left _ (List.mem_append_left _ (List.mem_append_right _ h)))
theorem zB_X3_lookAround_X20 : ∀ w ∈ wsX20, w ∈ wsX3_lookAround := fun _ h => List.mem_cons_of_mem _ (List.mem_append_left _ (List.mem_append_left _ (List.mem_append_left _ (List.mem_append_right _ h))))
set_option maxRecDepth 100000 in
theorem ggX3_lookAround_X9_priceOf : GoodIn wsX3_lookAround wsX9_priceOf := goodIn_hd (goodIn_c zc_wsX3_lookAround_in [(0, 18)] rfl (by decide +kernel)) (goodIn_app (goodIn_app (goodIn_app (goodIn_app (goodIn_c zc_wsX3_lookAround_in [(0, 19), (0, 20), (0, 21), (0, 22), (0, 23), (1, 0), (1, 1), (0, 17), (1, 2), (1, 3), (1, 4), (1, 5), (1, 6), (1, 7), (1, 8), (1, 9), (1, 10), (1, 11), (1, 12), (1, 13), (1, 14), (1, 15), (1, 16), (1, 17)] rfl (by decide +kernel)) (goodIn_c zc_wsX3_lookAround_in [(1, 18), (1, 19), (1, 20)] rfl (by decide +kernel))) (goodIn_sub zB_X3_lookAround_X90 zgw_X90)) (goodIn_sub zB_X3_lookAround_X40 zgw_X40)) (goodIn_sub zB_X3_lookAround_X20 zgw_X20))
set_option maxRecDepth 100000 in
theorem gX3_lookAround_X9_priceOf : GoodIn wsX3_lookAround (wsV RX3 83 RX9 yX9_priceOf wsX9_priceOf) := goodIn_app (goodIn_r _ [15, 16, 17, 18] rfl (by decide +kernel)) ggX3_lookAround_X9_priceOf
theorem zB_X3_lookAround_X70 : ∀ w ∈ wsX70, w ∈ wsX3_lookAround := fun _ h => List.mem_cons_of_mem _ (List.mem_append_left _ (List.mem_append_right _ h))
theorem zB_X3_lookAround_X60 : ∀ w ∈ wsX60, w ∈ wsX3_lookAround := fun _ h => List.mem_cons_of_mem _ (List.mem_append_right _ h)
set_option maxRecDepth 100000 in
theorem ggX3_lookAround_X7_reckon : GoodIn wsX3_lookAround wsX7_reckon := goodIn_hd (goodIn_c zc_wsX3_lookAround_in [(2, 1)] rfl (by decide +kernel)) (goodIn_app (goodIn_app (goodIn_app (goodIn_app (goodIn_app (goodIn_app (goodIn_c zc_wsX3_lookAround_in [(2, 2), (2, 3), (2, 4), (2, 5), (2, 6), (2, 7), (2, 8), (2, 9), (2, 10), (2, 0), (2, 11), (2, 12), (2, 13), (2, 14), (2, 15), (2, 16), (2, 17), (2, 18), (2, 19), (1, 11), (1, 12), (0, 17), (1, 13), (0, 20)] rfl (by decide +kernel)) (goodIn_app (goodIn_c zc_wsX3_lookAround_in [(0, 21), (1, 14), (1, 15), (2, 20), (2, 21), (2, 22), (2, 23), (1, 20), (3, 0), (3, 1), (3, 2), (3, 3), (3, 4), (3, 5), (1, 4), (1, 5), (1, 6), (1, 7), (1, 8), (1, 9), (3, 6), (3, 7), (3, 8), (3, 9)] rfl (by decide +kernel)) (goodIn_app (goodIn_c zc_wsX3_lookAround_in [(3, 10), (3, 11), (0, 12), (3, 12), (3, 13), (3, 14), (3, 15), (3, 16), (3, 17), (3, 18), (3, 19), (3, 20), (3, 21), (3, 22), (3, 23), (4, 0), (4, 1), (4, 2), (4, 3), (4, 4), (4, 5), (4, 6), (4, 7), (4, 8)] rfl (by decide +kernel)) (goodIn_c zc_wsX3_lookAround_in [(4, 9), (4, 10), (4, 11), (4, 12), (4, 13), (4, 14), (4, 15), (4, 16), (4, 17), (4, 18), (4, 19)] rfl (by decide +kernel))))) (goodIn_sub zB_X3_lookAround_X70 zgw_X70)) (goodIn_sub zB_X3_lookAround_X90 zgw_X90)) (goodIn_sub zB_X3_lookAround_X40 zgw_X40)) (goodIn_sub zB_X3_lookAround_X20 zgw_X20)) (goodIn_sub zB_X3_lookAround_X60 zgw_X60))
set_option maxRecDepth 100000 in
theorem gX3_lookAround_X7_reckon : GoodIn wsX3_lookAround (wsV RX3 79 RX7 yX7_reckon wsX7_reckon) := goodIn_app (goodIn_r _ [46, 47, 48, 49] rfl (by decide +kernel)) ggX3_lookAround_X7_reckon
set_option maxRecDepth 100000 in
theorem ggX4_add_X4_letsOf : GoodIn wsX4_add wsX4_letsOf := goodIn_r _ [17, 18, 1, 7, 19, 20, 21, 22, 23, 24, 25, 26, 27, 28] rfl (by decide +kernel)
set_option maxRecDepth 100000 in
theorem gX4_add_X4_letsOf : GoodIn wsX4_add (wsV RX4 40 RX4 yX4_letsOf wsX4_letsOf) := goodIn_app (goodIn_r _ [13, 14, 15, 16] rfl (by decide +kernel)) ggX4_add_X4_letsOf
set_option maxRecDepth 100000 in
theorem ggX4_madeFrom_X4_madeOf : GoodIn wsX4_madeFrom wsX4_madeOf := goodIn_r _ [6, 1, 7, 11, 12, 13, 14, 15, 16, 17, 18, 19, 20] rfl (by decide +kernel)
set_option maxRecDepth 100000 in
theorem gX4_madeFrom_X4_madeOf : GoodIn wsX4_madeFrom (wsV RX4 53 RX4 yX4_madeOf wsX4_madeOf) := goodIn_app (goodIn_r _ [2, 3, 4, 5] rfl (by decide +kernel)) ggX4_madeFrom_X4_madeOf
set_option maxRecDepth 100000 in
theorem ggX4_madeFrom_X4_isAmong : GoodIn wsX4_madeFrom wsX4_isAmong := goodIn_r _ [10] rfl (by decide +kernel)
set_option maxRecDepth 100000 in
theorem gX4_madeFrom_X4_isAmong : GoodIn wsX4_madeFrom (va_wsS RX4 56 yX4_isAmong wsX4_isAmong) := goodIn_app (goodIn_r _ [8, 9, 5] rfl (by decide +kernel)) ggX4_madeFrom_X4_isAmong
noncomputable def zc_wsX5_init : List (List Cond) := [wsX5_init_r1, wsX5_init_r2, wsX5_init_r3, wsX100, wsX50]
set_option maxRecDepth 20000 in
theorem zc_wsX5_init_in : ∀ l ∈ zc_wsX5_init, ∀ w ∈ l, w ∈ wsX5_init := by
  intro l hl
  unfold zc_wsX5_init at hl
  rcases List.mem_cons.mp hl with e | hl
  · rw [e]
    exact fun w h => List.mem_cons_of_mem _ (List.mem_append_left _ (List.mem_append_left _ (List.mem_append_left _ h)))
  rcases List.mem_cons.mp hl with e | hl
  · rw [e]
    exact fun w h => List.mem_cons_of_mem _ (List.mem_append_left _ (List.mem_append_left _ (List.mem_append_right _ (List.mem_append_left _ h))))
  rcases List.mem_cons.mp hl with e | hl
  · rw [e]
    exact fun w h => List.mem_cons_of_mem _ (List.mem_append_left _ (List.mem_append_left _ (List.mem_append_right _ (List.mem_append_right _ h))))
  rcases List.mem_cons.mp hl with e | hl
  · rw [e]
    exact fun w h => List.mem_cons_of_mem _ (List.mem_append_left _ (List.mem_append_right _ h))
  rcases List.mem_cons.mp hl with e | hl
  · rw [e]
    exact fun w h => List.mem_cons_of_mem _ (List.mem_append_right _ h)
  cases hl
set_option maxRecDepth 100000 in
theorem ggX5_init_X10_init : GoodIn wsX5_init wsX10_init := goodIn_c zc_wsX5_init_in [(0, 10), (0, 11), (0, 1), (0, 2), (0, 12), (0, 13), (0, 14), (0, 15), (0, 16), (0, 17), (0, 18), (0, 19), (0, 20), (0, 21), (0, 22), (0, 23), (1, 0), (1, 1), (1, 2), (1, 3), (1, 4), (1, 5), (1, 6), (1, 7), (1, 8), (1, 9), (1, 10), (1, 11), (1, 12), (1, 13), (1, 14), (1, 15), (1, 16), (1, 17), (1, 18), (1, 19), (1, 20), (1, 21), (1, 22), (1, 23), (2, 0), (2, 1), (2, 2), (2, 3), (2, 4), (2, 5), (2, 6), (2, 7), (2, 8), (2, 9), (2, 10), (2, 11), (2, 12), (2, 13), (2, 14), (2, 15), (2, 16), (3, 0), (3, 1), (3, 2), (3, 3), (3, 4), (3, 5), (3, 6), (3, 7)] rfl (by decide +kernel)
set_option maxRecDepth 100000 in
theorem gX5_init_X10_init : GoodIn wsX5_init (wsX10_init) := ggX5_init_X10_init
noncomputable def zc_wsX5_read : List (List Cond) := [wsX5_read_r1, wsX5_read_r2, wsX5_read_r3, wsX5_read_r4, wsX5_read_r5, wsX5_read_r6, wsX5_read_r7, wsX5_read_r8, wsX5_read_r9, wsX50, wsX100, wsX90, wsX40]
set_option maxRecDepth 20000 in
theorem zc_wsX5_read_in : ∀ l ∈ zc_wsX5_read, ∀ w ∈ l, w ∈ wsX5_read := by
  intro l hl
  unfold zc_wsX5_read at hl
  rcases List.mem_cons.mp hl with e | hl
  · rw [e]
    exact fun w h => List.mem_cons_of_mem _ (List.mem_append_left _ (List.mem_append_left _ (List.mem_append_left _ (List.mem_append_left _ (List.mem_append_left _ h)))))
  rcases List.mem_cons.mp hl with e | hl
  · rw [e]
    exact fun w h => List.mem_cons_of_mem _ (List.mem_append_left _ (List.mem_append_left _ (List.mem_append_left _ (List.mem_append_left _ (List.mem_append_right _ (List.mem_append_left _ h))))))
  rcases List.mem_cons.mp hl with e | hl
  · rw [e]
    exact fun w h => List.mem_cons_of_mem _ (List.mem_append_left _ (List.mem_append_left _ (List.mem_append_left _ (List.mem_append_left _ (List.mem_append_right _ (List.mem_append_right _ (List.mem_append_left _ h)))))))
  rcases List.mem_cons.mp hl with e | hl
  · rw [e]
    exact fun w h => List.mem_cons_of_mem _ (List.mem_append_left _ (List.mem_append_left _ (List.mem_append_left _ (List.mem_append_left _ (List.mem_append_right _ (List.mem_append_right _ (List.mem_append_right _ (List.mem_append_left _ h))))))))
  rcases List.mem_cons.mp hl with e | hl
  · rw [e]
    exact fun w h => List.mem_cons_of_mem _ (List.mem_append_left _ (List.mem_append_left _ (List.mem_append_left _ (List.mem_append_left _ (List.mem_append_right _ (List.mem_append_right _ (List.mem_append_right _ (List.mem_append_right _ (List.mem_append_left _ h)))))))))
  rcases List.mem_cons.mp hl with e | hl
  · rw [e]
    exact fun w h => List.mem_cons_of_mem _ (List.mem_append_left _ (List.mem_append_left _ (List.mem_append_left _ (List.mem_append_left _ (List.mem_append_right _ (List.mem_append_right _ (List.mem_append_right _ (List.mem_append_right _ (List.mem_append_right _ (List.mem_append_left _ h))))))))))
  rcases List.mem_cons.mp hl with e | hl
  · rw [e]
    exact fun w h => List.mem_cons_of_mem _ (List.mem_append_left _ (List.mem_append_left _ (List.mem_append_left _ (List.mem_append_left _ (List.mem_append_right _ (List.mem_append_right _ (List.mem_append_right _ (List.mem_append_right _ (List.mem_append_right _ (List.mem_append_right _ (List.mem_append_left _ h)))))))))))
  rcases List.mem_cons.mp hl with e | hl
  · rw [e]
    exact fun w h => List.mem_cons_of_mem _ (List.mem_append_left _ (List.mem_append_left _ (List.mem_append_left _ (List.mem_append_left _ (List.mem_append_right _ (List.mem_append_right _ (List.mem_append_right _ (List.mem_append_right _ (List.mem_append_right _ (List.mem_append_right _ (List.mem_append_right _ (List.mem_append_left _ h))))))))))))
  rcases List.mem_cons.mp hl with e | hl
  · rw [e]
    exact fun w h => List.mem_cons_of_mem _ (List.mem_append_left _ (List.mem_append_left _ (List.mem_append_left _ (List.mem_append_left _ (List.mem_append_right _ (List.mem_append_right _ (List.mem_append_right _ (List.mem_append_right _ (List.mem_append_right _ (List.mem_append_right _ (List.mem_append_right _ (List.mem_append_right _ h))))))))))))
  rcases List.mem_cons.mp hl with e | hl
  · rw [e]
    exact fun w h => List.mem_cons_of_mem _ (List.mem_append_left _ (List.mem_append_left _ (List.mem_append_left _ (List.mem_append_right _ h))))
  rcases List.mem_cons.mp hl with e | hl
  · rw [e]
    exact fun w h => List.mem_cons_of_mem _ (List.mem_append_left _ (List.mem_append_left _ (List.mem_append_right _ h)))
  rcases List.mem_cons.mp hl with e | hl
  · rw [e]
    exact fun w h => List.mem_cons_of_mem _ (List.mem_append_left _ (List.mem_append_right _ h))
  rcases List.mem_cons.mp hl with e | hl
  · rw [e]
    exact fun w h => List.mem_cons_of_mem _ (List.mem_append_right _ h)
  cases hl
theorem zB_X5_read_X90 : ∀ w ∈ wsX90, w ∈ wsX5_read := fun _ h => List.mem_cons_of_mem _ (List.mem_append_left _ (List.mem_append_right _ h))
theorem zB_X5_read_X40 : ∀ w ∈ wsX40, w ∈ wsX5_read := fun _ h => List.mem_cons_of_mem _ (List.mem_append_right _ h)
set_option maxRecDepth 100000 in
theorem ggX5_read_X9_clear : GoodIn wsX5_read wsX9_clear := goodIn_hd (goodIn_c zc_wsX5_read_in [(0, 11)] rfl (by decide +kernel)) (goodIn_app (goodIn_app (goodIn_c zc_wsX5_read_in [(0, 12), (0, 13), (0, 14), (0, 15), (0, 16)] rfl (by decide +kernel)) (goodIn_sub zB_X5_read_X90 zgw_X90)) (goodIn_sub zB_X5_read_X40 zgw_X40))
set_option maxRecDepth 100000 in
theorem gX5_read_X9_clear : GoodIn wsX5_read (wsV RX5 25 RX9 yX9_clear wsX9_clear) := goodIn_app (goodIn_r _ [8, 9, 10, 11] rfl (by decide +kernel)) ggX5_read_X9_clear
set_option maxRecDepth 100000 in
theorem ggX5_read_X10_open : GoodIn wsX5_read wsX10_open := goodIn_c zc_wsX5_read_in [(0, 21), (0, 22), (0, 23), (1, 0), (1, 1), (1, 2), (1, 3), (1, 4), (1, 5), (1, 6), (1, 7), (1, 8), (1, 9), (1, 10), (1, 11), (0, 20), (1, 12), (1, 13), (1, 14), (1, 15), (1, 16), (1, 17), (1, 18), (1, 19), (1, 20), (1, 21), (1, 22), (1, 23), (2, 0), (2, 1), (2, 2), (2, 3), (10, 0), (10, 1), (10, 2), (10, 3), (10, 4), (10, 5), (10, 6), (10, 7)] rfl (by decide +kernel)
set_option maxRecDepth 100000 in
theorem gX5_read_X10_open : GoodIn wsX5_read (wsV RX5 30 RX10 yX10_open wsX10_open) := goodIn_app (goodIn_r _ [18, 19, 20, 21] rfl (by decide +kernel)) ggX5_read_X10_open
theorem zB_X5_read_X50 : ∀ w ∈ wsX50, w ∈ wsX5_read := fun _ h => List.mem_cons_of_mem _ (List.mem_append_left _ (List.mem_append_left _ (List.mem_append_left _ (List.mem_append_right _ h))))
theorem zgw_X50 : wsX50.all goodWord = true := by decide +kernel
theorem zB_X5_read_X100 : ∀ w ∈ wsX100, w ∈ wsX5_read := fun _ h => List.mem_cons_of_mem _ (List.mem_append_left _ (List.mem_append_left _ (List.mem_append_right _ h)))
theorem zgw_X100 : wsX100.all goodWord = true := by decide +kernel
set_option maxRecDepth 100000 in
theorem ggX5_read_X5_readStatement : GoodIn wsX5_read wsX5_readStatement := goodIn_hd (goodIn_c zc_wsX5_read_in [(2, 8)] rfl (by decide +kernel)) (goodIn_app (goodIn_app (goodIn_app (goodIn_app (goodIn_app (goodIn_c zc_wsX5_read_in [(0, 2), (2, 9), (2, 10), (2, 11), (2, 12), (2, 7), (2, 13), (2, 14), (2, 15), (2, 16), (2, 17), (0, 0), (0, 1), (2, 18), (2, 19), (2, 20), (0, 4), (0, 5), (0, 6), (2, 21), (1, 10), (1, 11), (0, 20), (1, 12)] rfl (by decide +kernel)) (goodIn_app (goodIn_c zc_wsX5_read_in [(1, 7), (1, 8), (1, 6), (0, 22), (1, 13), (1, 14), (1, 15), (1, 16), (1, 17), (1, 18), (1, 19), (1, 20), (1, 21), (1, 22), (1, 23), (2, 0), (2, 1), (2, 2), (2, 3), (2, 22), (2, 23), (3, 0), (3, 1), (3, 2)] rfl (by decide +kernel)) (goodIn_app (goodIn_c zc_wsX5_read_in [(3, 3), (3, 4), (3, 5), (3, 6), (3, 7), (3, 8), (3, 9), (3, 10), (3, 11), (3, 12), (3, 13), (3, 14), (3, 15), (3, 16), (0, 10), (3, 17), (0, 12), (3, 18), (3, 19), (3, 20), (3, 21), (3, 22), (3, 23), (4, 0)] rfl (by decide +kernel)) (goodIn_app (goodIn_c zc_wsX5_read_in [(4, 1), (4, 2), (4, 3), (4, 4), (4, 5), (4, 6), (4, 7), (4, 8), (4, 9), (4, 10), (4, 11), (4, 12), (4, 13), (0, 3), (4, 14), (4, 15), (4, 16), (4, 17), (4, 18), (4, 19), (4, 20), (4, 21), (4, 22), (4, 23)] rfl (by decide +kernel)) (goodIn_app (goodIn_c zc_wsX5_read_in [(5, 0), (5, 1), (5, 2), (5, 3), (5, 4), (5, 5), (5, 6), (5, 7), (5, 8), (5, 9), (5, 10), (5, 11), (5, 12), (5, 13), (5, 14), (5, 15), (5, 16), (5, 17), (5, 18), (5, 19), (5, 20), (5, 21), (5, 22), (5, 23)] rfl (by decide +kernel)) (goodIn_app (goodIn_c zc_wsX5_read_in [(6, 0), (6, 1), (6, 2), (6, 3), (1, 4), (1, 1), (1, 5), (6, 4), (6, 5), (6, 6), (6, 7), (6, 8), (6, 9), (6, 10), (6, 11), (6, 12), (6, 13), (6, 14), (6, 15), (6, 16), (6, 17), (6, 18), (6, 19), (6, 20)] rfl (by decide +kernel)) (goodIn_app (goodIn_c zc_wsX5_read_in [(6, 21), (6, 22), (6, 23), (7, 0), (7, 1), (7, 2), (7, 3), (7, 4), (7, 5), (7, 6), (7, 7), (7, 8), (7, 9), (7, 10), (7, 11), (7, 12), (7, 13), (7, 14), (7, 15), (7, 16), (7, 17), (7, 18), (7, 19), (7, 20)] rfl (by decide +kernel)) (goodIn_c zc_wsX5_read_in [(7, 21), (7, 22), (7, 23), (8, 0), (8, 1), (8, 2), (8, 3), (8, 4), (8, 5)] rfl (by decide +kernel))))))))) (goodIn_sub zB_X5_read_X50 zgw_X50)) (goodIn_sub zB_X5_read_X100 zgw_X100)) (goodIn_sub zB_X5_read_X90 zgw_X90)) (goodIn_sub zB_X5_read_X40 zgw_X40))
set_option maxRecDepth 100000 in
theorem gX5_read_X5_readStatement : GoodIn wsX5_read (wsV RX5 37 RX5 yX5_readStatement wsX5_readStatement) := goodIn_app (goodIn_r _ [53, 54, 55, 56] rfl (by decide +kernel)) ggX5_read_X5_readStatement
set_option maxRecDepth 100000 in
theorem ggX5_read_X5_stopAt : GoodIn wsX5_read wsX5_stopAt := goodIn_r _ [66, 1, 2, 199, 200, 201, 202] rfl (by decide +kernel)
set_option maxRecDepth 100000 in
theorem gX5_read_X5_stopAt : GoodIn wsX5_read (wsV RX5 53 RX5 yX5_stopAt wsX5_stopAt) := goodIn_app (goodIn_r _ [63, 64, 65, 56] rfl (by decide +kernel)) ggX5_read_X5_stopAt
set_option maxRecDepth 100000 in
theorem ggX5_readStatement_X5_startsStatement : GoodIn wsX5_readStatement wsX5_startsStatement := goodIn_r _ [7] rfl (by decide +kernel)
set_option maxRecDepth 100000 in
theorem gX5_readStatement_X5_startsStatement : GoodIn wsX5_readStatement (va_wsS RX5 60 yX5_startsStatement wsX5_startsStatement) := goodIn_app (goodIn_r _ [4, 5, 6] rfl (by decide +kernel)) ggX5_readStatement_X5_startsStatement
set_option maxRecDepth 100000 in
theorem ggX5_readStatement_X5_stopAt : GoodIn wsX5_readStatement wsX5_stopAt := goodIn_r _ [11, 12, 13, 178, 179, 180, 181] rfl (by decide +kernel)
set_option maxRecDepth 100000 in
theorem gX5_readStatement_X5_stopAt : GoodIn wsX5_readStatement (wsV RX5 53 RX5 yX5_stopAt wsX5_stopAt) := goodIn_app (goodIn_r _ [8, 9, 10, 6] rfl (by decide +kernel)) ggX5_readStatement_X5_stopAt
noncomputable def zc_wsX5_readStatement : List (List Cond) := [wsX5_readStatement_r1, wsX5_readStatement_r2, wsX5_readStatement_r3, wsX5_readStatement_r4, wsX5_readStatement_r5, wsX5_readStatement_r6, wsX5_readStatement_r7, wsX5_readStatement_r8, wsX50, wsX100, wsX90, wsX40]
set_option maxRecDepth 20000 in
theorem zc_wsX5_readStatement_in : ∀ l ∈ zc_wsX5_readStatement, ∀ w ∈ l, w ∈ wsX5_readStatement := by
  intro l hl
  unfold zc_wsX5_readStatement at hl
  rcases List.mem_cons.mp hl with e | hl
  · rw [e]
    exact fun w h => List.mem_cons_of_mem _ (List.mem_append_left _ (List.mem_append_left _ (List.mem_append_left _ (List.mem_append_left _ (List.mem_append_left _ h)))))
  rcases List.mem_cons.mp hl with e | hl
  · rw [e]
    exact fun w h => List.mem_cons_of_mem _ (List.mem_append_left _ (List.mem_append_left _ (List.mem_append_left _ (List.mem_append_left _ (List.mem_append_right _ (List.mem_append_left _ h))))))
  rcases List.mem_cons.mp hl with e | hl
  · rw [e]
    exact fun w h => List.mem_cons_of_mem _ (List.mem_append_left _ (List.mem_append_left _ (List.mem_append_left _ (List.mem_append_left _ (List.mem_append_right _ (List.mem_append_right _ (List.mem_append_left _ h)))))))
  rcases List.mem_cons.mp hl with e | hl
  · rw [e]
    exact fun w h => List.mem_cons_of_mem _ (List.mem_append_left _ (List.mem_append_left _ (List.mem_append_left _ (List.mem_append_left _ (List.mem_append_right _ (List.mem_append_right _ (List.mem_append_right _ (List.mem_append_left _ h))))))))
  rcases List.mem_cons.mp hl with e | hl
  · rw [e]
    exact fun w h => List.mem_cons_of_mem _ (List.mem_append_left _ (List.mem_append_left _ (List.mem_append_left _ (List.mem_append_left _ (List.mem_append_right _ (List.mem_append_right _ (List.mem_append_right _ (List.mem_append_right _ (List.mem_append_left _ h)))))))))
  rcases List.mem_cons.mp hl with e | hl
  · rw [e]
    exact fun w h => List.mem_cons_of_mem _ (List.mem_append_left _ (List.mem_append_left _ (List.mem_append_left _ (List.mem_append_left _ (List.mem_append_right _ (List.mem_append_right _ (List.mem_append_right _ (List.mem_append_right _ (List.mem_append_right _ (List.mem_append_left _ h))))))))))
  rcases List.mem_cons.mp hl with e | hl
  · rw [e]
    exact fun w h => List.mem_cons_of_mem _ (List.mem_append_left _ (List.mem_append_left _ (List.mem_append_left _ (List.mem_append_left _ (List.mem_append_right _ (List.mem_append_right _ (List.mem_append_right _ (List.mem_append_right _ (List.mem_append_right _ (List.mem_append_right _ (List.mem_append_left _ h)))))))))))
  rcases List.mem_cons.mp hl with e | hl
  · rw [e]
    exact fun w h => List.mem_cons_of_mem _ (List.mem_append_left _ (List.mem_append_left _ (List.mem_append_left _ (List.mem_append_left _ (List.mem_append_right _ (List.mem_append_right _ (List.mem_append_right _ (List.mem_append_right _ (List.mem_append_right _ (List.mem_append_right _ (List.mem_append_right _ h)))))))))))
  rcases List.mem_cons.mp hl with e | hl
  · rw [e]
    exact fun w h => List.mem_cons_of_mem _ (List.mem_append_left _ (List.mem_append_left _ (List.mem_append_left _ (List.mem_append_right _ h))))
  rcases List.mem_cons.mp hl with e | hl
  · rw [e]
    exact fun w h => List.mem_cons_of_mem _ (List.mem_append_left _ (List.mem_append_left _ (List.mem_append_right _ h)))
  rcases List.mem_cons.mp hl with e | hl
  · rw [e]
    exact fun w h => List.mem_cons_of_mem _ (List.mem_append_left _ (List.mem_append_right _ h))
  rcases List.mem_cons.mp hl with e | hl
  · rw [e]
    exact fun w h => List.mem_cons_of_mem _ (List.mem_append_right _ h)
  cases hl
theorem zB_X5_readStatement_X90 : ∀ w ∈ wsX90, w ∈ wsX5_readStatement := fun _ h => List.mem_cons_of_mem _ (List.mem_append_left _ (List.mem_append_right _ h))
theorem zB_X5_readStatement_X40 : ∀ w ∈ wsX40, w ∈ wsX5_readStatement := fun _ h => List.mem_cons_of_mem _ (List.mem_append_right _ h)
set_option maxRecDepth 100000 in
theorem ggX5_readStatement_X5_isFull : GoodIn wsX5_readStatement wsX5_isFull := goodIn_hd (goodIn_c zc_wsX5_readStatement_in [(0, 15)] rfl (by decide +kernel)) (goodIn_app (goodIn_app (goodIn_c zc_wsX5_readStatement_in [(0, 16), (0, 17), (0, 18)] rfl (by decide +kernel)) (goodIn_sub zB_X5_readStatement_X90 zgw_X90)) (goodIn_sub zB_X5_readStatement_X40 zgw_X40))
set_option maxRecDepth 100000 in
theorem gX5_readStatement_X5_isFull : GoodIn wsX5_readStatement (va_wsS RX5 67 yX5_isFull wsX5_isFull) := goodIn_app (goodIn_r _ [14, 15, 6] rfl (by decide +kernel)) ggX5_readStatement_X5_isFull
set_option maxRecDepth 100000 in
theorem ggX5_readStatement_X10_advance : GoodIn wsX5_readStatement wsX10_advance := goodIn_c zc_wsX5_readStatement_in [(0, 23), (1, 0), (1, 1), (1, 2), (1, 3), (1, 4), (1, 5), (1, 6), (1, 7), (1, 8), (0, 22), (1, 9), (1, 10), (1, 11), (1, 12), (1, 13), (1, 14), (1, 15), (1, 16), (1, 17), (1, 18), (9, 0), (9, 1), (9, 2), (9, 3), (9, 4), (9, 5), (9, 6), (9, 7)] rfl (by decide +kernel)
set_option maxRecDepth 100000 in
theorem gX5_readStatement_X10_advance : GoodIn wsX5_readStatement (wsV RX5 70 RX10 yX10_advance wsX10_advance) := goodIn_app (goodIn_r _ [20, 21, 22, 23] rfl (by decide +kernel)) ggX5_readStatement_X10_advance
theorem zB_X5_readStatement_X50 : ∀ w ∈ wsX50, w ∈ wsX5_readStatement := fun _ h => List.mem_cons_of_mem _ (List.mem_append_left _ (List.mem_append_left _ (List.mem_append_left _ (List.mem_append_right _ h))))
theorem zB_X5_readStatement_X100 : ∀ w ∈ wsX100, w ∈ wsX5_readStatement := fun _ h => List.mem_cons_of_mem _ (List.mem_append_left _ (List.mem_append_left _ (List.mem_append_right _ h)))
set_option maxRecDepth 100000 in
theorem ggX5_readStatement_X5_readFormat : GoodIn wsX5_readStatement wsX5_readFormat := goodIn_hd (goodIn_c zc_wsX5_readStatement_in [(1, 22)] rfl (by decide +kernel)) (goodIn_app (goodIn_app (goodIn_app (goodIn_app (goodIn_app (goodIn_c zc_wsX5_readStatement_in [(1, 23), (2, 0), (2, 1), (2, 2), (2, 3), (2, 4), (0, 5), (2, 5), (0, 0), (0, 2), (2, 6), (0, 17), (2, 7), (2, 8), (2, 9), (0, 22), (2, 10), (1, 1), (1, 6), (0, 7), (0, 8), (0, 9), (0, 10), (0, 11)] rfl (by decide +kernel)) (goodIn_app (goodIn_c zc_wsX5_readStatement_in [(0, 12), (2, 11), (2, 12), (2, 13), (2, 14), (2, 15), (2, 16), (2, 17), (2, 18), (2, 19), (2, 20), (2, 21), (2, 22), (2, 23), (3, 0), (0, 19), (0, 20), (0, 21), (0, 23), (1, 0), (1, 2), (1, 3), (1, 4), (1, 5)] rfl (by decide +kernel)) (goodIn_app (goodIn_c zc_wsX5_readStatement_in [(1, 7), (1, 8), (1, 9), (1, 10), (1, 11), (1, 12), (1, 13), (1, 14), (1, 15), (1, 16), (1, 17), (1, 18), (3, 1), (3, 2), (3, 3), (3, 4), (3, 5), (3, 6), (3, 7), (3, 8), (3, 9), (3, 10), (3, 11), (3, 12)] rfl (by decide +kernel)) (goodIn_c zc_wsX5_readStatement_in [(3, 13), (3, 14), (3, 15), (3, 16), (3, 17), (3, 18), (3, 19), (3, 20), (3, 21), (3, 22), (3, 23), (4, 0)] rfl (by decide +kernel))))) (goodIn_sub zB_X5_readStatement_X50 zgw_X50)) (goodIn_sub zB_X5_readStatement_X100 zgw_X100)) (goodIn_sub zB_X5_readStatement_X90 zgw_X90)) (goodIn_sub zB_X5_readStatement_X40 zgw_X40))
set_option maxRecDepth 100000 in
theorem gX5_readStatement_X5_readFormat : GoodIn wsX5_readStatement (wsV RX5 73 RX5 yX5_readFormat wsX5_readFormat) := goodIn_app (goodIn_r _ [44, 45, 46, 6] rfl (by decide +kernel)) ggX5_readStatement_X5_readFormat
set_option maxRecDepth 100000 in
theorem ggX5_readStatement_X5_readCast : GoodIn wsX5_readStatement wsX5_readCast := goodIn_hd (goodIn_c zc_wsX5_readStatement_in [(4, 4)] rfl (by decide +kernel)) (goodIn_app (goodIn_app (goodIn_app (goodIn_app (goodIn_c zc_wsX5_readStatement_in [(1, 23), (4, 5), (3, 9), (3, 10), (3, 11), (0, 5), (3, 12), (0, 0), (0, 2), (3, 13), (2, 6), (3, 14), (3, 15), (3, 16), (0, 22), (3, 17), (1, 1), (1, 5), (0, 19), (0, 20), (0, 21), (0, 23), (1, 0), (1, 2)] rfl (by decide +kernel)) (goodIn_c zc_wsX5_readStatement_in [(1, 3), (1, 4), (1, 6), (1, 7), (1, 8), (1, 9), (1, 10), (1, 11), (1, 12), (1, 13), (1, 14), (1, 15), (1, 16), (1, 17), (1, 18), (0, 7), (0, 8), (0, 9), (0, 10), (0, 11), (0, 12)] rfl (by decide +kernel))) (goodIn_sub zB_X5_readStatement_X50 zgw_X50)) (goodIn_sub zB_X5_readStatement_X90 zgw_X90)) (goodIn_sub zB_X5_readStatement_X100 zgw_X100))
set_option maxRecDepth 100000 in
theorem gX5_readStatement_X5_readCast : GoodIn wsX5_readStatement (wsV RX5 77 RX5 yX5_readCast wsX5_readCast) := goodIn_app (goodIn_r _ [98, 99, 100, 6] rfl (by decide +kernel)) ggX5_readStatement_X5_readCast
set_option maxRecDepth 100000 in
theorem ggX5_readStatement_X5_readBox : GoodIn wsX5_readStatement wsX5_readBox := goodIn_hd (goodIn_c zc_wsX5_readStatement_in [(4, 9)] rfl (by decide +kernel)) (goodIn_app (goodIn_app (goodIn_app (goodIn_app (goodIn_app (goodIn_c zc_wsX5_readStatement_in [(1, 23), (4, 10), (4, 11), (0, 17), (2, 2), (2, 3), (2, 4), (0, 5), (2, 5), (0, 0), (0, 2), (2, 6), (2, 7), (2, 8), (2, 9), (0, 22), (2, 10), (1, 1), (1, 6), (0, 7), (0, 8), (0, 9), (0, 10), (0, 11)] rfl (by decide +kernel)) (goodIn_app (goodIn_c zc_wsX5_readStatement_in [(0, 12), (2, 11), (2, 12), (2, 13), (2, 14), (2, 15), (2, 16), (2, 17), (2, 18), (2, 19), (2, 20), (2, 21), (2, 22), (2, 23), (3, 0), (0, 19), (0, 20), (0, 21), (0, 23), (1, 0), (1, 2), (1, 3), (1, 4), (1, 5)] rfl (by decide +kernel)) (goodIn_app (goodIn_c zc_wsX5_readStatement_in [(1, 7), (1, 8), (1, 9), (1, 10), (1, 11), (1, 12), (1, 13), (1, 14), (1, 15), (1, 16), (1, 17), (1, 18), (3, 9), (3, 10), (3, 11), (3, 12), (3, 13), (3, 14), (3, 15), (3, 16), (3, 17), (4, 12), (4, 13), (4, 14)] rfl (by decide +kernel)) (goodIn_c zc_wsX5_readStatement_in [(4, 15), (4, 16), (4, 17), (4, 18), (4, 19), (4, 20), (4, 21), (4, 22), (4, 23), (5, 0), (5, 1), (5, 2), (5, 3), (5, 4), (5, 5), (5, 6), (5, 7), (5, 8), (5, 9), (5, 10), (5, 11)] rfl (by decide +kernel))))) (goodIn_sub zB_X5_readStatement_X50 zgw_X50)) (goodIn_sub zB_X5_readStatement_X90 zgw_X90)) (goodIn_sub zB_X5_readStatement_X100 zgw_X100)) (goodIn_sub zB_X5_readStatement_X40 zgw_X40))
set_option maxRecDepth 100000 in
theorem gX5_readStatement_X5_readBox : GoodIn wsX5_readStatement (wsV RX5 80 RX5 yX5_readBox wsX5_readBox) := goodIn_app (goodIn_r _ [103, 104, 105, 6] rfl (by decide +kernel)) ggX5_readStatement_X5_readBox
set_option maxRecDepth 100000 in
theorem ggX5_readStatement_X5_readLet : GoodIn wsX5_readStatement wsX5_readLet := goodIn_hd (goodIn_c zc_wsX5_readStatement_in [(5, 15)] rfl (by decide +kernel)) (goodIn_app (goodIn_app (goodIn_app (goodIn_app (goodIn_app (goodIn_c zc_wsX5_readStatement_in [(1, 23), (0, 17), (2, 2), (2, 3), (2, 4), (0, 5), (2, 5), (0, 0), (0, 2), (2, 6), (2, 7), (2, 8), (2, 9), (0, 22), (2, 10), (1, 1), (1, 6), (0, 7), (0, 8), (0, 9), (0, 10), (0, 11), (0, 12), (2, 11)] rfl (by decide +kernel)) (goodIn_app (goodIn_c zc_wsX5_readStatement_in [(2, 12), (2, 13), (2, 14), (2, 15), (2, 16), (2, 17), (2, 18), (2, 19), (2, 20), (2, 21), (2, 22), (2, 23), (3, 0), (0, 19), (0, 20), (0, 21), (0, 23), (1, 0), (1, 2), (1, 3), (1, 4), (1, 5), (1, 7), (1, 8)] rfl (by decide +kernel)) (goodIn_app (goodIn_c zc_wsX5_readStatement_in [(1, 9), (1, 10), (1, 11), (1, 12), (1, 13), (1, 14), (1, 15), (1, 16), (1, 17), (1, 18), (5, 16), (5, 17), (5, 18), (5, 19), (3, 14), (3, 15), (3, 16), (3, 17), (5, 20), (5, 21), (5, 22), (5, 23), (3, 13), (6, 0)] rfl (by decide +kernel)) (goodIn_app (goodIn_c zc_wsX5_readStatement_in [(2, 0), (6, 1), (6, 2), (6, 3), (6, 4), (4, 12), (4, 13), (4, 14), (4, 15), (4, 16), (4, 17), (3, 9), (3, 10), (3, 11), (3, 12), (6, 5), (6, 6), (6, 7), (6, 8), (3, 5), (3, 6), (3, 7), (3, 8), (4, 18)] rfl (by decide +kernel)) (goodIn_c zc_wsX5_readStatement_in [(4, 19), (4, 20), (4, 21), (4, 22), (4, 23), (5, 0), (5, 1), (5, 2), (5, 3), (5, 4), (5, 5), (5, 6), (5, 7), (5, 8), (5, 9), (5, 10), (5, 11)] rfl (by decide +kernel)))))) (goodIn_sub zB_X5_readStatement_X50 zgw_X50)) (goodIn_sub zB_X5_readStatement_X90 zgw_X90)) (goodIn_sub zB_X5_readStatement_X100 zgw_X100)) (goodIn_sub zB_X5_readStatement_X40 zgw_X40))
set_option maxRecDepth 100000 in
theorem gX5_readStatement_X5_readLet : GoodIn wsX5_readStatement (wsV RX5 83 RX5 yX5_readLet wsX5_readLet) := goodIn_app (goodIn_r _ [133, 134, 135, 6] rfl (by decide +kernel)) ggX5_readStatement_X5_readLet
set_option maxRecDepth 100000 in
theorem ggX5_readStatement_X5_readFixed : GoodIn wsX5_readStatement wsX5_readFixed := goodIn_hd (goodIn_c zc_wsX5_readStatement_in [(6, 12)] rfl (by decide +kernel)) (goodIn_app (goodIn_app (goodIn_app (goodIn_app (goodIn_app (goodIn_c zc_wsX5_readStatement_in [(0, 17), (0, 0), (2, 6), (1, 23), (2, 18), (2, 19), (2, 20), (2, 21), (2, 22), (2, 23), (3, 0), (6, 1), (6, 2), (6, 3), (0, 5), (6, 4), (0, 2), (2, 7), (2, 8), (2, 9), (0, 22), (2, 10), (1, 1), (1, 6)] rfl (by decide +kernel)) (goodIn_app (goodIn_c zc_wsX5_readStatement_in [(0, 7), (0, 8), (0, 9), (0, 10), (0, 11), (0, 12), (0, 19), (0, 20), (0, 21), (0, 23), (1, 0), (1, 2), (1, 3), (1, 4), (1, 5), (1, 7), (1, 8), (1, 9), (1, 10), (1, 11), (1, 12), (1, 13), (1, 14), (1, 15)] rfl (by decide +kernel)) (goodIn_c zc_wsX5_readStatement_in [(1, 16), (1, 17), (1, 18), (2, 11), (2, 12), (2, 13), (2, 14), (2, 15), (2, 16), (2, 17), (6, 13), (6, 14), (6, 15), (6, 16), (4, 23)] rfl (by decide +kernel)))) (goodIn_sub zB_X5_readStatement_X90 zgw_X90)) (goodIn_sub zB_X5_readStatement_X50 zgw_X50)) (goodIn_sub zB_X5_readStatement_X100 zgw_X100)) (goodIn_sub zB_X5_readStatement_X40 zgw_X40))
set_option maxRecDepth 100000 in
theorem gX5_readStatement_X5_readFixed : GoodIn wsX5_readStatement (wsV RX5 86 RX5 yX5_readFixed wsX5_readFixed) := goodIn_app (goodIn_r _ [154, 155, 156, 6] rfl (by decide +kernel)) ggX5_readStatement_X5_readFixed
set_option maxRecDepth 100000 in
theorem ggX5_readStatement_X5_readGroup : GoodIn wsX5_readStatement wsX5_readGroup := goodIn_hd (goodIn_c zc_wsX5_readStatement_in [(6, 20)] rfl (by decide +kernel)) (goodIn_app (goodIn_app (goodIn_app (goodIn_app (goodIn_app (goodIn_c zc_wsX5_readStatement_in [(0, 17), (0, 0), (2, 6), (1, 23), (0, 2), (2, 18), (2, 19), (2, 20), (2, 21), (2, 22), (2, 23), (3, 0), (6, 1), (6, 2), (6, 3), (0, 5), (6, 4), (2, 7), (2, 8), (2, 9), (0, 22), (2, 10), (1, 1), (1, 6)] rfl (by decide +kernel)) (goodIn_app (goodIn_c zc_wsX5_readStatement_in [(0, 7), (0, 8), (0, 9), (0, 10), (0, 11), (0, 12), (0, 19), (0, 20), (0, 21), (0, 23), (1, 0), (1, 2), (1, 3), (1, 4), (1, 5), (1, 7), (1, 8), (1, 9), (1, 10), (1, 11), (1, 12), (1, 13), (1, 14), (1, 15)] rfl (by decide +kernel)) (goodIn_c zc_wsX5_readStatement_in [(1, 16), (1, 17), (1, 18), (6, 21), (6, 22), (6, 23), (7, 0), (5, 1)] rfl (by decide +kernel)))) (goodIn_sub zB_X5_readStatement_X90 zgw_X90)) (goodIn_sub zB_X5_readStatement_X50 zgw_X50)) (goodIn_sub zB_X5_readStatement_X100 zgw_X100)) (goodIn_sub zB_X5_readStatement_X40 zgw_X40))
set_option maxRecDepth 100000 in
theorem gX5_readStatement_X5_readGroup : GoodIn wsX5_readStatement (wsV RX5 89 RX5 yX5_readGroup wsX5_readGroup) := goodIn_app (goodIn_r _ [162, 163, 164, 6] rfl (by decide +kernel)) ggX5_readStatement_X5_readGroup
set_option maxRecDepth 100000 in
theorem ggX5_readStatement_X5_readAnswer : GoodIn wsX5_readStatement wsX5_readAnswer := goodIn_hd (goodIn_c zc_wsX5_readStatement_in [(7, 4)] rfl (by decide +kernel)) (goodIn_app (goodIn_app (goodIn_app (goodIn_app (goodIn_app (goodIn_c zc_wsX5_readStatement_in [(0, 17), (0, 0), (2, 6), (1, 23), (2, 0), (2, 18), (2, 19), (2, 20), (2, 21), (2, 22), (2, 23), (3, 0), (6, 1), (6, 2), (6, 3), (0, 5), (6, 4), (0, 2), (2, 7), (2, 8), (2, 9), (0, 22), (2, 10), (1, 1)] rfl (by decide +kernel)) (goodIn_app (goodIn_c zc_wsX5_readStatement_in [(1, 6), (0, 7), (0, 8), (0, 9), (0, 10), (0, 11), (0, 12), (0, 19), (0, 20), (0, 21), (0, 23), (1, 0), (1, 2), (1, 3), (1, 4), (1, 5), (1, 7), (1, 8), (1, 9), (1, 10), (1, 11), (1, 12), (1, 13), (1, 14)] rfl (by decide +kernel)) (goodIn_app (goodIn_c zc_wsX5_readStatement_in [(1, 15), (1, 16), (1, 17), (1, 18), (3, 1), (3, 2), (3, 3), (3, 4), (3, 5), (3, 6), (3, 7), (3, 8), (3, 9), (3, 10), (3, 11), (3, 12), (3, 13), (3, 14), (3, 15), (3, 16), (3, 17), (7, 5), (7, 6), (7, 7)] rfl (by decide +kernel)) (goodIn_c zc_wsX5_readStatement_in [(7, 8), (5, 0)] rfl (by decide +kernel))))) (goodIn_sub zB_X5_readStatement_X90 zgw_X90)) (goodIn_sub zB_X5_readStatement_X50 zgw_X50)) (goodIn_sub zB_X5_readStatement_X100 zgw_X100)) (goodIn_sub zB_X5_readStatement_X40 zgw_X40))
set_option maxRecDepth 100000 in
theorem gX5_readStatement_X5_readAnswer : GoodIn wsX5_readStatement (wsV RX5 92 RX5 yX5_readAnswer wsX5_readAnswer) := goodIn_app (goodIn_r _ [170, 171, 172, 6] rfl (by decide +kernel)) ggX5_readStatement_X5_readAnswer
set_option maxRecDepth 100000 in
theorem ggX5_readStatement_X5_readSign : GoodIn wsX5_readStatement wsX5_readSign := goodIn_hd (goodIn_c zc_wsX5_readStatement_in [(5, 19)] rfl (by decide +kernel)) (goodIn_app (goodIn_app (goodIn_app (goodIn_c zc_wsX5_readStatement_in [(0, 0), (0, 2), (3, 14), (3, 15), (3, 16), (0, 22), (3, 17), (1, 1), (1, 5), (0, 7), (0, 8), (0, 9), (0, 5), (0, 10), (0, 11), (0, 12), (0, 19), (0, 20), (0, 21), (0, 23), (1, 0), (1, 2), (1, 3), (1, 4)] rfl (by decide +kernel)) (goodIn_c zc_wsX5_readStatement_in [(1, 6), (1, 7), (1, 8), (1, 9), (1, 10), (1, 11), (1, 12), (1, 13), (1, 14), (1, 15), (1, 16), (1, 17), (1, 18)] rfl (by decide +kernel))) (goodIn_sub zB_X5_readStatement_X50 zgw_X50)) (goodIn_sub zB_X5_readStatement_X100 zgw_X100))
set_option maxRecDepth 100000 in
theorem gX5_readStatement_X5_readSign : GoodIn wsX5_readStatement (wsV RX5 95 RX5 yX5_readSign wsX5_readSign) := goodIn_app (goodIn_r _ [137, 138, 139, 6] rfl (by decide +kernel)) ggX5_readStatement_X5_readSign
noncomputable def zc_wsX5_readFormat : List (List Cond) := [wsX5_readFormat_r1, wsX5_readFormat_r2, wsX5_readFormat_r3, wsX5_readFormat_r4, wsX50, wsX100, wsX90, wsX40]
set_option maxRecDepth 20000 in
theorem zc_wsX5_readFormat_in : ∀ l ∈ zc_wsX5_readFormat, ∀ w ∈ l, w ∈ wsX5_readFormat := by
  intro l hl
  unfold zc_wsX5_readFormat at hl
  rcases List.mem_cons.mp hl with e | hl
  · rw [e]
    exact fun w h => List.mem_cons_of_mem _ (List.mem_append_left _ (List.mem_append_left _ (List.mem_append_left _ (List.mem_append_left _ (List.mem_append_left _ h)))))
  rcases List.mem_cons.mp hl with e | hl
  · rw [e]
    exact fun w h => List.mem_cons_of_mem _ (List.mem_append_left _ (List.mem_append_left _ (List.mem_append_left _ (List.mem_append_left _ (List.mem_append_right _ (List.mem_append_left _ h))))))
  rcases List.mem_cons.mp hl with e | hl
  · rw [e]
    exact fun w h => List.mem_cons_of_mem _ (List.mem_append_left _ (List.mem_append_left _ (List.mem_append_left _ (List.mem_append_left _ (List.mem_append_right _ (List.mem_append_right _ (List.mem_append_left _ h)))))))
  rcases List.mem_cons.mp hl with e | hl
  · rw [e]
    exact fun w h => List.mem_cons_of_mem _ (List.mem_append_left _ (List.mem_append_left _ (List.mem_append_left _ (List.mem_append_left _ (List.mem_append_right _ (List.mem_append_right _ (List.mem_append_right _ h)))))))
  rcases List.mem_cons.mp hl with e | hl
  · rw [e]
    exact fun w h => List.mem_cons_of_mem _ (List.mem_append_left _ (List.mem_append_left _ (List.mem_append_left _ (List.mem_append_right _ h))))
  rcases List.mem_cons.mp hl with e | hl
  · rw [e]
    exact fun w h => List.mem_cons_of_mem _ (List.mem_append_left _ (List.mem_append_left _ (List.mem_append_right _ h)))
  rcases List.mem_cons.mp hl with e | hl
  · rw [e]
    exact fun w h => List.mem_cons_of_mem _ (List.mem_append_left _ (List.mem_append_right _ h))
  rcases List.mem_cons.mp hl with e | hl
  · rw [e]
    exact fun w h => List.mem_cons_of_mem _ (List.mem_append_right _ h)
  cases hl
theorem zB_X5_readFormat_X50 : ∀ w ∈ wsX50, w ∈ wsX5_readFormat := fun _ h => List.mem_cons_of_mem _ (List.mem_append_left _ (List.mem_append_left _ (List.mem_append_left _ (List.mem_append_right _ h))))
theorem zB_X5_readFormat_X100 : ∀ w ∈ wsX100, w ∈ wsX5_readFormat := fun _ h => List.mem_cons_of_mem _ (List.mem_append_left _ (List.mem_append_left _ (List.mem_append_right _ h)))
theorem zB_X5_readFormat_X90 : ∀ w ∈ wsX90, w ∈ wsX5_readFormat := fun _ h => List.mem_cons_of_mem _ (List.mem_append_left _ (List.mem_append_right _ h))
theorem zB_X5_readFormat_X40 : ∀ w ∈ wsX40, w ∈ wsX5_readFormat := fun _ h => List.mem_cons_of_mem _ (List.mem_append_right _ h)
set_option maxRecDepth 100000 in
theorem ggX5_readFormat_X5_readNewName : GoodIn wsX5_readFormat wsX5_readNewName := goodIn_hd (goodIn_c zc_wsX5_readFormat_in [(0, 7)] rfl (by decide +kernel)) (goodIn_app (goodIn_app (goodIn_app (goodIn_app (goodIn_app (goodIn_c zc_wsX5_readFormat_in [(0, 8), (0, 9), (0, 10), (0, 11), (0, 0), (0, 12), (0, 13), (0, 14), (0, 15), (0, 16), (0, 17), (0, 18), (0, 19), (0, 20), (0, 21), (0, 6), (0, 22), (0, 23), (1, 0), (1, 1), (1, 2), (1, 3), (1, 4), (1, 5)] rfl (by decide +kernel)) (goodIn_app (goodIn_c zc_wsX5_readFormat_in [(1, 6), (1, 7), (1, 8), (1, 9), (1, 10), (1, 11), (1, 12), (1, 13), (1, 14), (1, 15), (1, 16), (1, 17), (1, 18), (1, 19), (1, 20), (1, 21), (1, 22), (1, 23), (2, 0), (2, 1), (2, 2), (2, 3), (2, 4), (2, 5)] rfl (by decide +kernel)) (goodIn_c zc_wsX5_readFormat_in [(2, 6), (2, 7), (2, 8), (2, 9), (2, 10), (2, 11)] rfl (by decide +kernel)))) (goodIn_sub zB_X5_readFormat_X50 zgw_X50)) (goodIn_sub zB_X5_readFormat_X100 zgw_X100)) (goodIn_sub zB_X5_readFormat_X90 zgw_X90)) (goodIn_sub zB_X5_readFormat_X40 zgw_X40))
set_option maxRecDepth 100000 in
theorem gX5_readFormat_X5_readNewName : GoodIn wsX5_readFormat (wsV RX5 99 RX5 yX5_readNewName wsX5_readNewName) := goodIn_app (goodIn_r _ [4, 5, 6, 7] rfl (by decide +kernel)) ggX5_readFormat_X5_readNewName
set_option maxRecDepth 100000 in
theorem ggX5_readFormat_X5_readOwn : GoodIn wsX5_readFormat wsX5_readOwn := goodIn_hd (goodIn_c zc_wsX5_readFormat_in [(2, 15)] rfl (by decide +kernel)) (goodIn_app (goodIn_app (goodIn_app (goodIn_c zc_wsX5_readFormat_in [(0, 8), (0, 9), (2, 16), (2, 17), (2, 18), (0, 15), (2, 19), (0, 17), (0, 18), (0, 19), (0, 20), (0, 21), (0, 6), (0, 22), (0, 23), (1, 0), (1, 15), (1, 16), (1, 17), (1, 18), (1, 19), (1, 20), (1, 21), (1, 22)] rfl (by decide +kernel)) (goodIn_c zc_wsX5_readFormat_in [(1, 23), (2, 0), (2, 1), (2, 2), (2, 3), (2, 4), (2, 5), (2, 6), (2, 7), (2, 8), (2, 9), (2, 10), (2, 11)] rfl (by decide +kernel))) (goodIn_sub zB_X5_readFormat_X50 zgw_X50)) (goodIn_sub zB_X5_readFormat_X100 zgw_X100))
set_option maxRecDepth 100000 in
theorem gX5_readFormat_X5_readOwn : GoodIn wsX5_readFormat (wsV RX5 105 RX5 yX5_readOwn wsX5_readOwn) := goodIn_app (goodIn_r _ [61, 62, 63, 7] rfl (by decide +kernel)) ggX5_readFormat_X5_readOwn
set_option maxRecDepth 100000 in
theorem ggX5_readFormat_X5_readValue : GoodIn wsX5_readFormat wsX5_readValue := goodIn_hd (goodIn_c zc_wsX5_readFormat_in [(2, 23)] rfl (by decide +kernel)) (goodIn_app (goodIn_app (goodIn_app (goodIn_c zc_wsX5_readFormat_in [(0, 8), (0, 9), (3, 0), (0, 10), (0, 0), (3, 1), (3, 2), (3, 3), (0, 15), (3, 4), (0, 17), (1, 23), (1, 15), (1, 16), (1, 17), (1, 18), (1, 19), (1, 20), (1, 21), (1, 22), (0, 18), (2, 0), (2, 1), (2, 2)] rfl (by decide +kernel)) (goodIn_c zc_wsX5_readFormat_in [(2, 3), (2, 4), (2, 5), (2, 6), (2, 7), (2, 8), (2, 9), (2, 10), (2, 11), (0, 19), (0, 20), (0, 21), (0, 6), (0, 22), (0, 23), (1, 0)] rfl (by decide +kernel))) (goodIn_sub zB_X5_readFormat_X50 zgw_X50)) (goodIn_sub zB_X5_readFormat_X100 zgw_X100))
set_option maxRecDepth 100000 in
theorem gX5_readFormat_X5_readValue : GoodIn wsX5_readFormat (wsV RX5 109 RX5 yX5_readValue wsX5_readValue) := goodIn_app (goodIn_r _ [69, 70, 71, 7] rfl (by decide +kernel)) ggX5_readFormat_X5_readValue
set_option maxRecDepth 100000 in
theorem ggX5_readFormat_X9_addFormat : GoodIn wsX5_readFormat wsX9_addFormat := goodIn_r _ [81, 31, 32, 82, 83, 84, 97, 98, 99, 100, 101, 102, 103, 104, 105] rfl (by decide +kernel)
set_option maxRecDepth 100000 in
theorem gX5_readFormat_X9_addFormat : GoodIn wsX5_readFormat (wsV RX5 114 RX9 yX9_addFormat wsX9_addFormat) := goodIn_app (goodIn_r _ [78, 79, 80, 29] rfl (by decide +kernel)) ggX5_readFormat_X9_addFormat
theorem zB_X5_readCast_X50 : ∀ w ∈ wsX50, w ∈ wsX5_readCast := fun _ h => List.mem_cons_of_mem _ (List.mem_append_left _ (List.mem_append_left _ (List.mem_append_right _ h)))
theorem zB_X5_readCast_X100 : ∀ w ∈ wsX100, w ∈ wsX5_readCast := fun _ h => List.mem_cons_of_mem _ (List.mem_append_right _ h)
set_option maxRecDepth 100000 in
theorem ggX5_readCast_X5_readValue : GoodIn wsX5_readCast wsX5_readValue := goodIn_hd (goodIn_r _ [7] rfl (by decide +kernel)) (goodIn_app (goodIn_app (goodIn_app (goodIn_r _ [8, 9, 10, 11, 1, 12, 13, 14, 15, 16, 17, 18, 19, 20, 21, 22, 23, 24, 25, 26, 27, 28, 29, 30] rfl (by decide +kernel)) (goodIn_r _ [31, 32, 33, 34, 35, 36, 37, 38, 39, 40, 41, 42, 6, 43, 44, 45] rfl (by decide +kernel))) (goodIn_sub zB_X5_readCast_X50 zgw_X50)) (goodIn_sub zB_X5_readCast_X100 zgw_X100))
set_option maxRecDepth 100000 in
theorem gX5_readCast_X5_readValue : GoodIn wsX5_readCast (wsV RX5 109 RX5 yX5_readValue wsX5_readValue) := goodIn_app (goodIn_r _ [3, 4, 5, 6] rfl (by decide +kernel)) ggX5_readCast_X5_readValue
noncomputable def zc_wsX5_readBox : List (List Cond) := [wsX5_readBox_r1, wsX5_readBox_r2, wsX5_readBox_r3, wsX5_readBox_r4, wsX50, wsX90, wsX100, wsX40]
set_option maxRecDepth 20000 in
theorem zc_wsX5_readBox_in : ∀ l ∈ zc_wsX5_readBox, ∀ w ∈ l, w ∈ wsX5_readBox := by
  intro l hl
  unfold zc_wsX5_readBox at hl
  rcases List.mem_cons.mp hl with e | hl
  · rw [e]
    exact fun w h => List.mem_cons_of_mem _ (List.mem_append_left _ (List.mem_append_left _ (List.mem_append_left _ (List.mem_append_left _ (List.mem_append_left _ h)))))
  rcases List.mem_cons.mp hl with e | hl
  · rw [e]
    exact fun w h => List.mem_cons_of_mem _ (List.mem_append_left _ (List.mem_append_left _ (List.mem_append_left _ (List.mem_append_left _ (List.mem_append_right _ (List.mem_append_left _ h))))))
  rcases List.mem_cons.mp hl with e | hl
  · rw [e]
    exact fun w h => List.mem_cons_of_mem _ (List.mem_append_left _ (List.mem_append_left _ (List.mem_append_left _ (List.mem_append_left _ (List.mem_append_right _ (List.mem_append_right _ (List.mem_append_left _ h)))))))
  rcases List.mem_cons.mp hl with e | hl
  · rw [e]
    exact fun w h => List.mem_cons_of_mem _ (List.mem_append_left _ (List.mem_append_left _ (List.mem_append_left _ (List.mem_append_left _ (List.mem_append_right _ (List.mem_append_right _ (List.mem_append_right _ h)))))))
  rcases List.mem_cons.mp hl with e | hl
  · rw [e]
    exact fun w h => List.mem_cons_of_mem _ (List.mem_append_left _ (List.mem_append_left _ (List.mem_append_left _ (List.mem_append_right _ h))))
  rcases List.mem_cons.mp hl with e | hl
  · rw [e]
    exact fun w h => List.mem_cons_of_mem _ (List.mem_append_left _ (List.mem_append_left _ (List.mem_append_right _ h)))
  rcases List.mem_cons.mp hl with e | hl
  · rw [e]
    exact fun w h => List.mem_cons_of_mem _ (List.mem_append_left _ (List.mem_append_right _ h))
  rcases List.mem_cons.mp hl with e | hl
  · rw [e]
    exact fun w h => List.mem_cons_of_mem _ (List.mem_append_right _ h)
  cases hl
theorem zB_X5_readBox_X50 : ∀ w ∈ wsX50, w ∈ wsX5_readBox := fun _ h => List.mem_cons_of_mem _ (List.mem_append_left _ (List.mem_append_left _ (List.mem_append_left _ (List.mem_append_right _ h))))
theorem zB_X5_readBox_X100 : ∀ w ∈ wsX100, w ∈ wsX5_readBox := fun _ h => List.mem_cons_of_mem _ (List.mem_append_left _ (List.mem_append_right _ h))
theorem zB_X5_readBox_X90 : ∀ w ∈ wsX90, w ∈ wsX5_readBox := fun _ h => List.mem_cons_of_mem _ (List.mem_append_left _ (List.mem_append_left _ (List.mem_append_right _ h)))
theorem zB_X5_readBox_X40 : ∀ w ∈ wsX40, w ∈ wsX5_readBox := fun _ h => List.mem_cons_of_mem _ (List.mem_append_right _ h)
set_option maxRecDepth 100000 in
theorem ggX5_readBox_X5_readNewName : GoodIn wsX5_readBox wsX5_readNewName := goodIn_hd (goodIn_c zc_wsX5_readBox_in [(0, 8)] rfl (by decide +kernel)) (goodIn_app (goodIn_app (goodIn_app (goodIn_app (goodIn_app (goodIn_c zc_wsX5_readBox_in [(0, 9), (0, 10), (0, 11), (0, 3), (0, 0), (0, 12), (0, 13), (0, 14), (0, 15), (0, 16), (0, 17), (0, 18), (0, 19), (0, 20), (0, 21), (0, 7), (0, 22), (0, 23), (1, 0), (1, 1), (1, 2), (1, 3), (1, 4), (1, 5)] rfl (by decide +kernel)) (goodIn_app (goodIn_c zc_wsX5_readBox_in [(1, 6), (1, 7), (1, 8), (1, 9), (1, 10), (1, 11), (1, 12), (1, 13), (1, 14), (1, 15), (1, 16), (1, 17), (1, 18), (1, 19), (1, 20), (1, 21), (1, 22), (1, 23), (2, 0), (2, 1), (2, 2), (2, 3), (2, 4), (2, 5)] rfl (by decide +kernel)) (goodIn_c zc_wsX5_readBox_in [(2, 6), (2, 7), (2, 8), (2, 9), (2, 10), (2, 11)] rfl (by decide +kernel)))) (goodIn_sub zB_X5_readBox_X50 zgw_X50)) (goodIn_sub zB_X5_readBox_X100 zgw_X100)) (goodIn_sub zB_X5_readBox_X90 zgw_X90)) (goodIn_sub zB_X5_readBox_X40 zgw_X40))
set_option maxRecDepth 100000 in
theorem gX5_readBox_X5_readNewName : GoodIn wsX5_readBox (wsV RX5 99 RX5 yX5_readNewName wsX5_readNewName) := goodIn_app (goodIn_r _ [5, 6, 7, 8] rfl (by decide +kernel)) ggX5_readBox_X5_readNewName
set_option maxRecDepth 100000 in
theorem ggX5_readBox_X5_readValue : GoodIn wsX5_readBox wsX5_readValue := goodIn_hd (goodIn_c zc_wsX5_readBox_in [(2, 15)] rfl (by decide +kernel)) (goodIn_app (goodIn_app (goodIn_app (goodIn_c zc_wsX5_readBox_in [(0, 9), (0, 10), (2, 16), (0, 11), (0, 0), (2, 17), (2, 18), (2, 19), (0, 15), (2, 20), (0, 17), (1, 23), (1, 15), (1, 16), (1, 17), (1, 18), (1, 19), (1, 20), (1, 21), (1, 22), (0, 18), (2, 0), (2, 1), (2, 2)] rfl (by decide +kernel)) (goodIn_c zc_wsX5_readBox_in [(2, 3), (2, 4), (2, 5), (2, 6), (2, 7), (2, 8), (2, 9), (2, 10), (2, 11), (0, 19), (0, 20), (0, 21), (0, 7), (0, 22), (0, 23), (1, 0)] rfl (by decide +kernel))) (goodIn_sub zB_X5_readBox_X50 zgw_X50)) (goodIn_sub zB_X5_readBox_X100 zgw_X100))
set_option maxRecDepth 100000 in
theorem gX5_readBox_X5_readValue : GoodIn wsX5_readBox (wsV RX5 109 RX5 yX5_readValue wsX5_readValue) := goodIn_app (goodIn_r _ [61, 62, 63, 8] rfl (by decide +kernel)) ggX5_readBox_X5_readValue
set_option maxRecDepth 100000 in
theorem ggX5_readBox_X4_prepare : GoodIn wsX5_readBox wsX4_prepare := goodIn_r _ [73, 38, 74, 75, 115, 116, 117, 118, 119, 120, 121, 122, 123, 124] rfl (by decide +kernel)
set_option maxRecDepth 100000 in
theorem gX5_readBox_X4_prepare : GoodIn wsX5_readBox (wsV RX5 123 RX4 yX4_prepare wsX4_prepare) := goodIn_app (goodIn_r _ [70, 71, 72, 36] rfl (by decide +kernel)) ggX5_readBox_X4_prepare
set_option maxRecDepth 100000 in
theorem ggX5_readBox_X4_add : GoodIn wsX5_readBox wsX4_add := goodIn_c zc_wsX5_readBox_in [(3, 6), (1, 13), (1, 14), (3, 7), (3, 8), (3, 9), (3, 10), (3, 11), (3, 12), (3, 13), (3, 14), (3, 15), (3, 16), (3, 17), (3, 18), (3, 19), (1, 11), (3, 20), (3, 1), (7, 0), (7, 1), (7, 2), (7, 3), (7, 4), (7, 5), (7, 6), (7, 7), (7, 8), (7, 9)] rfl (by decide +kernel)
set_option maxRecDepth 100000 in
theorem gX5_readBox_X4_add : GoodIn wsX5_readBox (wsV RX5 127 RX4 yX4_add wsX4_add) := goodIn_app (goodIn_r _ [76, 77, 78, 36] rfl (by decide +kernel)) ggX5_readBox_X4_add
noncomputable def zc_wsX5_readLet : List (List Cond) := [wsX5_readLet_r1, wsX5_readLet_r2, wsX5_readLet_r3, wsX5_readLet_r4, wsX5_readLet_r5, wsX50, wsX90, wsX100, wsX40]
set_option maxRecDepth 20000 in
theorem zc_wsX5_readLet_in : ∀ l ∈ zc_wsX5_readLet, ∀ w ∈ l, w ∈ wsX5_readLet := by
  intro l hl
  unfold zc_wsX5_readLet at hl
  rcases List.mem_cons.mp hl with e | hl
  · rw [e]
    exact fun w h => List.mem_cons_of_mem _ (List.mem_append_left _ (List.mem_append_left _ (List.mem_append_left _ (List.mem_append_left _ (List.mem_append_left _ h)))))
  rcases List.mem_cons.mp hl with e | hl
  · rw [e]
    exact fun w h => List.mem_cons_of_mem _ (List.mem_append_left _ (List.mem_append_left _ (List.mem_append_left _ (List.mem_append_left _ (List.mem_append_right _ (List.mem_append_left _ h))))))
  rcases List.mem_cons.mp hl with e | hl
  · rw [e]
    exact fun w h => List.mem_cons_of_mem _ (List.mem_append_left _ (List.mem_append_left _ (List.mem_append_left _ (List.mem_append_left _ (List.mem_append_right _ (List.mem_append_right _ (List.mem_append_left _ h)))))))
  rcases List.mem_cons.mp hl with e | hl
  · rw [e]
    exact fun w h => List.mem_cons_of_mem _ (List.mem_append_left _ (List.mem_append_left _ (List.mem_append_left _ (List.mem_append_left _ (List.mem_append_right _ (List.mem_append_right _ (List.mem_append_right _ (List.mem_append_left _ h))))))))
  rcases List.mem_cons.mp hl with e | hl
  · rw [e]
    exact fun w h => List.mem_cons_of_mem _ (List.mem_append_left _ (List.mem_append_left _ (List.mem_append_left _ (List.mem_append_left _ (List.mem_append_right _ (List.mem_append_right _ (List.mem_append_right _ (List.mem_append_right _ h))))))))
  rcases List.mem_cons.mp hl with e | hl
  · rw [e]
    exact fun w h => List.mem_cons_of_mem _ (List.mem_append_left _ (List.mem_append_left _ (List.mem_append_left _ (List.mem_append_right _ h))))
  rcases List.mem_cons.mp hl with e | hl
  · rw [e]
    exact fun w h => List.mem_cons_of_mem _ (List.mem_append_left _ (List.mem_append_left _ (List.mem_append_right _ h)))
  rcases List.mem_cons.mp hl with e | hl
  · rw [e]
    exact fun w h => List.mem_cons_of_mem _ (List.mem_append_left _ (List.mem_append_right _ h))
  rcases List.mem_cons.mp hl with e | hl
  · rw [e]
    exact fun w h => List.mem_cons_of_mem _ (List.mem_append_right _ h)
  cases hl
theorem zB_X5_readLet_X50 : ∀ w ∈ wsX50, w ∈ wsX5_readLet := fun _ h => List.mem_cons_of_mem _ (List.mem_append_left _ (List.mem_append_left _ (List.mem_append_left _ (List.mem_append_right _ h))))
theorem zB_X5_readLet_X100 : ∀ w ∈ wsX100, w ∈ wsX5_readLet := fun _ h => List.mem_cons_of_mem _ (List.mem_append_left _ (List.mem_append_right _ h))
theorem zB_X5_readLet_X90 : ∀ w ∈ wsX90, w ∈ wsX5_readLet := fun _ h => List.mem_cons_of_mem _ (List.mem_append_left _ (List.mem_append_left _ (List.mem_append_right _ h)))
theorem zB_X5_readLet_X40 : ∀ w ∈ wsX40, w ∈ wsX5_readLet := fun _ h => List.mem_cons_of_mem _ (List.mem_append_right _ h)
set_option maxRecDepth 100000 in
theorem ggX5_readLet_X5_readNewName : GoodIn wsX5_readLet wsX5_readNewName := goodIn_hd (goodIn_c zc_wsX5_readLet_in [(0, 6)] rfl (by decide +kernel)) (goodIn_app (goodIn_app (goodIn_app (goodIn_app (goodIn_app (goodIn_c zc_wsX5_readLet_in [(0, 7), (0, 8), (0, 9), (0, 1), (0, 0), (0, 10), (0, 11), (0, 12), (0, 13), (0, 14), (0, 15), (0, 16), (0, 17), (0, 18), (0, 19), (0, 5), (0, 20), (0, 21), (0, 22), (0, 23), (1, 0), (1, 1), (1, 2), (1, 3)] rfl (by decide +kernel)) (goodIn_app (goodIn_c zc_wsX5_readLet_in [(1, 4), (1, 5), (1, 6), (1, 7), (1, 8), (1, 9), (1, 10), (1, 11), (1, 12), (1, 13), (1, 14), (1, 15), (1, 16), (1, 17), (1, 18), (1, 19), (1, 20), (1, 21), (1, 22), (1, 23), (2, 0), (2, 1), (2, 2), (2, 3)] rfl (by decide +kernel)) (goodIn_c zc_wsX5_readLet_in [(2, 4), (2, 5), (2, 6), (2, 7), (2, 8), (2, 9)] rfl (by decide +kernel)))) (goodIn_sub zB_X5_readLet_X50 zgw_X50)) (goodIn_sub zB_X5_readLet_X100 zgw_X100)) (goodIn_sub zB_X5_readLet_X90 zgw_X90)) (goodIn_sub zB_X5_readLet_X40 zgw_X40))
set_option maxRecDepth 100000 in
theorem gX5_readLet_X5_readNewName : GoodIn wsX5_readLet (wsV RX5 99 RX5 yX5_readNewName wsX5_readNewName) := goodIn_app (goodIn_r _ [3, 4, 5, 6] rfl (by decide +kernel)) ggX5_readLet_X5_readNewName
set_option maxRecDepth 100000 in
theorem ggX5_readLet_X5_readSign : GoodIn wsX5_readLet wsX5_readSign := goodIn_hd (goodIn_c zc_wsX5_readLet_in [(2, 13)] rfl (by decide +kernel)) (goodIn_app (goodIn_app (goodIn_app (goodIn_c zc_wsX5_readLet_in [(0, 7), (0, 8), (2, 14), (2, 15), (2, 16), (0, 13), (2, 17), (0, 15), (1, 21), (0, 17), (0, 18), (0, 19), (0, 5), (0, 20), (0, 21), (0, 22), (1, 13), (1, 14), (1, 15), (1, 16), (1, 17), (1, 18), (1, 19), (1, 20)] rfl (by decide +kernel)) (goodIn_c zc_wsX5_readLet_in [(0, 16), (1, 22), (1, 23), (2, 0), (2, 1), (2, 2), (2, 3), (2, 4), (2, 5), (2, 6), (2, 7), (2, 8), (2, 9)] rfl (by decide +kernel))) (goodIn_sub zB_X5_readLet_X50 zgw_X50)) (goodIn_sub zB_X5_readLet_X100 zgw_X100))
set_option maxRecDepth 100000 in
theorem gX5_readLet_X5_readSign : GoodIn wsX5_readLet (wsV RX5 95 RX5 yX5_readSign wsX5_readSign) := goodIn_app (goodIn_r _ [59, 60, 61, 6] rfl (by decide +kernel)) ggX5_readLet_X5_readSign
set_option maxRecDepth 100000 in
theorem ggX5_readLet_X5_readWhat : GoodIn wsX5_readLet wsX5_readWhat := goodIn_hd (goodIn_c zc_wsX5_readLet_in [(2, 21)] rfl (by decide +kernel)) (goodIn_app (goodIn_app (goodIn_app (goodIn_app (goodIn_app (goodIn_c zc_wsX5_readLet_in [(0, 7), (2, 22), (0, 1), (0, 9), (0, 0), (2, 23), (3, 0), (1, 6), (1, 7), (1, 8), (1, 9), (1, 10), (1, 11), (1, 12), (3, 1), (3, 2), (3, 3), (0, 5), (3, 4), (0, 8), (0, 10), (0, 11), (0, 12), (0, 13)] rfl (by decide +kernel)) (goodIn_app (goodIn_c zc_wsX5_readLet_in [(0, 14), (0, 15), (0, 16), (0, 17), (0, 18), (0, 19), (0, 20), (0, 21), (0, 22), (1, 13), (1, 14), (1, 15), (1, 16), (1, 17), (1, 18), (1, 19), (1, 20), (1, 21), (1, 22), (1, 23), (2, 0), (2, 1), (2, 2), (2, 3)] rfl (by decide +kernel)) (goodIn_c zc_wsX5_readLet_in [(2, 4), (2, 5), (2, 6), (2, 7), (2, 8), (2, 9), (3, 5), (3, 6), (3, 7), (3, 8), (3, 9), (3, 10), (3, 11), (3, 12), (3, 13), (3, 14), (2, 14), (2, 15), (2, 16), (2, 17)] rfl (by decide +kernel)))) (goodIn_sub zB_X5_readLet_X50 zgw_X50)) (goodIn_sub zB_X5_readLet_X100 zgw_X100)) (goodIn_sub zB_X5_readLet_X90 zgw_X90)) (goodIn_sub zB_X5_readLet_X40 zgw_X40))
set_option maxRecDepth 100000 in
theorem gX5_readLet_X5_readWhat : GoodIn wsX5_readLet (wsV RX5 131 RX5 yX5_readWhat wsX5_readWhat) := goodIn_app (goodIn_r _ [67, 68, 69, 6] rfl (by decide +kernel)) ggX5_readLet_X5_readWhat
set_option maxRecDepth 100000 in
theorem ggX5_readLet_X5_readOp : GoodIn wsX5_readLet wsX5_readOp := goodIn_hd (goodIn_c zc_wsX5_readLet_in [(3, 18)] rfl (by decide +kernel)) (goodIn_app (goodIn_app (goodIn_app (goodIn_c zc_wsX5_readLet_in [(0, 7), (0, 0), (0, 8), (2, 14), (2, 15), (2, 16), (0, 13), (2, 17), (0, 15), (1, 21), (3, 19), (3, 20), (3, 21), (3, 22), (0, 16), (0, 17), (0, 18), (0, 19), (0, 5), (0, 20), (0, 21), (0, 22), (1, 13), (1, 14)] rfl (by decide +kernel)) (goodIn_c zc_wsX5_readLet_in [(1, 15), (1, 16), (1, 17), (1, 18), (1, 19), (1, 20), (1, 22), (1, 23), (2, 0), (2, 1), (2, 2), (2, 3), (2, 4), (2, 5), (2, 6), (2, 7), (2, 8), (2, 9)] rfl (by decide +kernel))) (goodIn_sub zB_X5_readLet_X50 zgw_X50)) (goodIn_sub zB_X5_readLet_X100 zgw_X100))
set_option maxRecDepth 100000 in
theorem gX5_readLet_X5_readOp : GoodIn wsX5_readLet (wsV RX5 134 RX5 yX5_readOp wsX5_readOp) := goodIn_app (goodIn_r _ [88, 89, 90, 6] rfl (by decide +kernel)) ggX5_readLet_X5_readOp
set_option maxRecDepth 100000 in
theorem ggX5_readLet_X4_add : GoodIn wsX5_readLet wsX4_add := goodIn_c zc_wsX5_readLet_in [(4, 2), (1, 11), (1, 12), (4, 3), (4, 4), (4, 5), (4, 6), (4, 7), (4, 8), (4, 9), (4, 10), (4, 11), (4, 12), (4, 13), (4, 14), (4, 15), (1, 9), (4, 16), (3, 9), (8, 0), (8, 1), (8, 2), (8, 3), (8, 4), (8, 5), (8, 6), (8, 7), (8, 8), (8, 9)] rfl (by decide +kernel)
set_option maxRecDepth 100000 in
theorem gX5_readLet_X4_add : GoodIn wsX5_readLet (wsV RX5 127 RX4 yX4_add wsX4_add) := goodIn_app (goodIn_r _ [96, 97, 98, 34] rfl (by decide +kernel)) ggX5_readLet_X4_add
set_option maxRecDepth 100000 in
theorem ggX5_readWhat_X4_find : GoodIn wsX5_readWhat wsX4_find := goodIn_r _ [12, 13, 14, 90, 91, 92, 93, 94, 95, 96, 97, 98, 99] rfl (by decide +kernel)
set_option maxRecDepth 100000 in
theorem gX5_readWhat_X4_find : GoodIn wsX5_readWhat (wsV RX5 141 RX4 yX4_find wsX4_find) := goodIn_app (goodIn_r _ [8, 9, 10, 11] rfl (by decide +kernel)) ggX5_readWhat_X4_find
noncomputable def zc_wsX5_readWhat : List (List Cond) := [wsX5_readWhat_r1, wsX5_readWhat_r2, wsX5_readWhat_r3, wsX50, wsX100, wsX90, wsX40]
set_option maxRecDepth 20000 in
theorem zc_wsX5_readWhat_in : ∀ l ∈ zc_wsX5_readWhat, ∀ w ∈ l, w ∈ wsX5_readWhat := by
  intro l hl
  unfold zc_wsX5_readWhat at hl
  rcases List.mem_cons.mp hl with e | hl
  · rw [e]
    exact fun w h => List.mem_cons_of_mem _ (List.mem_append_left _ (List.mem_append_left _ (List.mem_append_left _ (List.mem_append_left _ (List.mem_append_left _ h)))))
  rcases List.mem_cons.mp hl with e | hl
  · rw [e]
    exact fun w h => List.mem_cons_of_mem _ (List.mem_append_left _ (List.mem_append_left _ (List.mem_append_left _ (List.mem_append_left _ (List.mem_append_right _ (List.mem_append_left _ h))))))
  rcases List.mem_cons.mp hl with e | hl
  · rw [e]
    exact fun w h => List.mem_cons_of_mem _ (List.mem_append_left _ (List.mem_append_left _ (List.mem_append_left _ (List.mem_append_left _ (List.mem_append_right _ (List.mem_append_right _ h))))))
  rcases List.mem_cons.mp hl with e | hl
  · rw [e]
    exact fun w h => List.mem_cons_of_mem _ (List.mem_append_left _ (List.mem_append_left _ (List.mem_append_left _ (List.mem_append_right _ h))))
  rcases List.mem_cons.mp hl with e | hl
  · rw [e]
    exact fun w h => List.mem_cons_of_mem _ (List.mem_append_left _ (List.mem_append_left _ (List.mem_append_right _ h)))
  rcases List.mem_cons.mp hl with e | hl
  · rw [e]
    exact fun w h => List.mem_cons_of_mem _ (List.mem_append_left _ (List.mem_append_right _ h))
  rcases List.mem_cons.mp hl with e | hl
  · rw [e]
    exact fun w h => List.mem_cons_of_mem _ (List.mem_append_right _ h)
  cases hl
theorem zB_X5_readWhat_X50 : ∀ w ∈ wsX50, w ∈ wsX5_readWhat := fun _ h => List.mem_cons_of_mem _ (List.mem_append_left _ (List.mem_append_left _ (List.mem_append_left _ (List.mem_append_right _ h))))
theorem zB_X5_readWhat_X100 : ∀ w ∈ wsX100, w ∈ wsX5_readWhat := fun _ h => List.mem_cons_of_mem _ (List.mem_append_left _ (List.mem_append_left _ (List.mem_append_right _ h)))
set_option maxRecDepth 100000 in
theorem ggX5_readWhat_X5_readKnown : GoodIn wsX5_readWhat wsX5_readKnown := goodIn_hd (goodIn_c zc_wsX5_readWhat_in [(0, 18)] rfl (by decide +kernel)) (goodIn_app (goodIn_app (goodIn_app (goodIn_c zc_wsX5_readWhat_in [(0, 0), (0, 19), (0, 4), (0, 20), (0, 21), (0, 22), (0, 23), (1, 0), (1, 1), (1, 2), (1, 3), (1, 4), (1, 5), (0, 17), (1, 6), (1, 7), (1, 8), (1, 9), (1, 10), (1, 11), (1, 12), (1, 13), (1, 14), (1, 15)] rfl (by decide +kernel)) (goodIn_c zc_wsX5_readWhat_in [(1, 16), (1, 17), (1, 18), (1, 19), (1, 20), (1, 21), (1, 22), (1, 23), (2, 0), (2, 1), (2, 2), (2, 3), (2, 4), (2, 5)] rfl (by decide +kernel))) (goodIn_sub zB_X5_readWhat_X50 zgw_X50)) (goodIn_sub zB_X5_readWhat_X100 zgw_X100))
set_option maxRecDepth 100000 in
theorem gX5_readWhat_X5_readKnown : GoodIn wsX5_readWhat (wsV RX5 145 RX5 yX5_readKnown wsX5_readKnown) := goodIn_app (goodIn_r _ [15, 16, 17, 18] rfl (by decide +kernel)) ggX5_readWhat_X5_readKnown
set_option maxRecDepth 100000 in
theorem ggX5_readWhat_X4_prepare : GoodIn wsX5_readWhat wsX4_prepare := goodIn_r _ [58, 13, 59, 60, 90, 91, 92, 93, 94, 95, 96, 97, 98, 99] rfl (by decide +kernel)
set_option maxRecDepth 100000 in
theorem gX5_readWhat_X4_prepare : GoodIn wsX5_readWhat (wsV RX5 123 RX4 yX4_prepare wsX4_prepare) := goodIn_app (goodIn_r _ [55, 56, 57, 11] rfl (by decide +kernel)) ggX5_readWhat_X4_prepare
set_option maxRecDepth 100000 in
theorem ggX5_readWhat_X5_readValue : GoodIn wsX5_readWhat wsX5_readValue := goodIn_hd (goodIn_c zc_wsX5_readWhat_in [(2, 15)] rfl (by decide +kernel)) (goodIn_app (goodIn_app (goodIn_app (goodIn_c zc_wsX5_readWhat_in [(0, 0), (0, 19), (0, 1), (0, 3), (0, 4), (2, 16), (2, 17), (2, 18), (0, 23), (2, 19), (1, 1), (1, 17), (1, 9), (1, 10), (1, 11), (1, 12), (1, 13), (1, 14), (1, 15), (1, 16), (1, 2), (1, 18), (1, 19), (1, 20)] rfl (by decide +kernel)) (goodIn_c zc_wsX5_readWhat_in [(1, 21), (1, 22), (1, 23), (2, 0), (2, 1), (2, 2), (2, 3), (2, 4), (2, 5), (1, 3), (1, 4), (1, 5), (0, 17), (1, 6), (1, 7), (1, 8)] rfl (by decide +kernel))) (goodIn_sub zB_X5_readWhat_X50 zgw_X50)) (goodIn_sub zB_X5_readWhat_X100 zgw_X100))
set_option maxRecDepth 100000 in
theorem gX5_readWhat_X5_readValue : GoodIn wsX5_readWhat (wsV RX5 109 RX5 yX5_readValue wsX5_readValue) := goodIn_app (goodIn_r _ [61, 62, 63, 18] rfl (by decide +kernel)) ggX5_readWhat_X5_readValue
set_option maxRecDepth 100000 in
theorem ggX5_readOp_X10_isSign : GoodIn wsX5_readOp wsX10_isSign := goodIn_r _ [8, 9, 10, 47, 48, 49, 50, 51, 52, 53, 54] rfl (by decide +kernel)
set_option maxRecDepth 100000 in
theorem gX5_readOp_X10_isSign : GoodIn wsX5_readOp (wsV RX5 149 RX10 yX10_isSign wsX10_isSign) := goodIn_app (goodIn_r _ [4, 5, 6, 7] rfl (by decide +kernel)) ggX5_readOp_X10_isSign
set_option maxRecDepth 100000 in
theorem ggX5_readOp_X10_isOwn : GoodIn wsX5_readOp wsX10_isOwn := goodIn_r _ [14, 9, 15, 47, 48, 49, 50, 51, 52, 53, 54] rfl (by decide +kernel)
set_option maxRecDepth 100000 in
theorem gX5_readOp_X10_isOwn : GoodIn wsX5_readOp (wsV RX5 152 RX10 yX10_isOwn wsX10_isOwn) := goodIn_app (goodIn_r _ [11, 12, 13, 7] rfl (by decide +kernel)) ggX5_readOp_X10_isOwn
set_option maxRecDepth 100000 in
theorem ggX5_readOp_X5_stopAt : GoodIn wsX5_readOp wsX5_stopAt := goodIn_r _ [20, 21, 22, 43, 44, 45, 46] rfl (by decide +kernel)
set_option maxRecDepth 100000 in
theorem gX5_readOp_X5_stopAt : GoodIn wsX5_readOp (wsV RX5 53 RX5 yX5_stopAt wsX5_stopAt) := goodIn_app (goodIn_r _ [16, 17, 18, 19] rfl (by decide +kernel)) ggX5_readOp_X5_stopAt
set_option maxRecDepth 100000 in
theorem ggX5_readOp_X10_advance : GoodIn wsX5_readOp wsX10_advance := goodIn_r _ [26, 27, 9, 28, 29, 30, 10, 15, 31, 32, 7, 33, 34, 35, 36, 37, 38, 39, 40, 41, 42, 47, 48, 49, 50, 51, 52, 53, 54] rfl (by decide +kernel)
set_option maxRecDepth 100000 in
theorem gX5_readOp_X10_advance : GoodIn wsX5_readOp (wsV RX5 70 RX10 yX10_advance wsX10_advance) := goodIn_app (goodIn_r _ [23, 24, 25, 7] rfl (by decide +kernel)) ggX5_readOp_X10_advance
set_option maxRecDepth 100000 in
theorem ggX5_readFixed_X4_find : GoodIn wsX5_readFixed wsX4_find := goodIn_r _ [9, 10, 11, 85, 86, 87, 88, 89, 90, 91, 92, 93, 94] rfl (by decide +kernel)
set_option maxRecDepth 100000 in
theorem gX5_readFixed_X4_find : GoodIn wsX5_readFixed (wsV RX5 141 RX4 yX4_find wsX4_find) := goodIn_app (goodIn_r _ [5, 6, 7, 8] rfl (by decide +kernel)) ggX5_readFixed_X4_find
noncomputable def zc_wsX5_readFixed : List (List Cond) := [wsX5_readFixed_r1, wsX5_readFixed_r2, wsX5_readFixed_r3, wsX90, wsX50, wsX100, wsX40]
set_option maxRecDepth 20000 in
theorem zc_wsX5_readFixed_in : ∀ l ∈ zc_wsX5_readFixed, ∀ w ∈ l, w ∈ wsX5_readFixed := by
  intro l hl
  unfold zc_wsX5_readFixed at hl
  rcases List.mem_cons.mp hl with e | hl
  · rw [e]
    exact fun w h => List.mem_cons_of_mem _ (List.mem_append_left _ (List.mem_append_left _ (List.mem_append_left _ (List.mem_append_left _ (List.mem_append_left _ h)))))
  rcases List.mem_cons.mp hl with e | hl
  · rw [e]
    exact fun w h => List.mem_cons_of_mem _ (List.mem_append_left _ (List.mem_append_left _ (List.mem_append_left _ (List.mem_append_left _ (List.mem_append_right _ (List.mem_append_left _ h))))))
  rcases List.mem_cons.mp hl with e | hl
  · rw [e]
    exact fun w h => List.mem_cons_of_mem _ (List.mem_append_left _ (List.mem_append_left _ (List.mem_append_left _ (List.mem_append_left _ (List.mem_append_right _ (List.mem_append_right _ h))))))
  rcases List.mem_cons.mp hl with e | hl
  · rw [e]
    exact fun w h => List.mem_cons_of_mem _ (List.mem_append_left _ (List.mem_append_left _ (List.mem_append_left _ (List.mem_append_right _ h))))
  rcases List.mem_cons.mp hl with e | hl
  · rw [e]
    exact fun w h => List.mem_cons_of_mem _ (List.mem_append_left _ (List.mem_append_left _ (List.mem_append_right _ h)))
  rcases List.mem_cons.mp hl with e | hl
  · rw [e]
    exact fun w h => List.mem_cons_of_mem _ (List.mem_append_left _ (List.mem_append_right _ h))
  rcases List.mem_cons.mp hl with e | hl
  · rw [e]
    exact fun w h => List.mem_cons_of_mem _ (List.mem_append_right _ h)
  cases hl
theorem zB_X5_readFixed_X50 : ∀ w ∈ wsX50, w ∈ wsX5_readFixed := fun _ h => List.mem_cons_of_mem _ (List.mem_append_left _ (List.mem_append_left _ (List.mem_append_right _ h)))
theorem zB_X5_readFixed_X100 : ∀ w ∈ wsX100, w ∈ wsX5_readFixed := fun _ h => List.mem_cons_of_mem _ (List.mem_append_left _ (List.mem_append_right _ h))
set_option maxRecDepth 100000 in
theorem ggX5_readFixed_X5_readKnown : GoodIn wsX5_readFixed wsX5_readKnown := goodIn_hd (goodIn_c zc_wsX5_readFixed_in [(0, 15)] rfl (by decide +kernel)) (goodIn_app (goodIn_app (goodIn_app (goodIn_c zc_wsX5_readFixed_in [(0, 1), (0, 16), (0, 3), (0, 17), (0, 18), (0, 19), (0, 20), (0, 21), (0, 22), (0, 23), (1, 0), (1, 1), (1, 2), (0, 14), (1, 3), (1, 4), (1, 5), (1, 6), (1, 7), (1, 8), (1, 9), (1, 10), (1, 11), (1, 12)] rfl (by decide +kernel)) (goodIn_c zc_wsX5_readFixed_in [(1, 13), (1, 14), (1, 15), (1, 16), (1, 17), (1, 18), (1, 19), (1, 20), (1, 21), (1, 22), (1, 23), (2, 0), (2, 1), (2, 2)] rfl (by decide +kernel))) (goodIn_sub zB_X5_readFixed_X50 zgw_X50)) (goodIn_sub zB_X5_readFixed_X100 zgw_X100))
set_option maxRecDepth 100000 in
theorem gX5_readFixed_X5_readKnown : GoodIn wsX5_readFixed (wsV RX5 145 RX5 yX5_readKnown wsX5_readKnown) := goodIn_app (goodIn_r _ [12, 13, 14, 15] rfl (by decide +kernel)) ggX5_readFixed_X5_readKnown
set_option maxRecDepth 100000 in
theorem ggX5_readFixed_X9_findFormat : GoodIn wsX5_readFixed wsX9_findFormat := goodIn_r _ [56, 57, 58, 64, 65, 66, 67, 68, 69, 70, 71, 72] rfl (by decide +kernel)
set_option maxRecDepth 100000 in
theorem gX5_readFixed_X9_findFormat : GoodIn wsX5_readFixed (wsV RX5 155 RX9 yX9_findFormat wsX9_findFormat) := goodIn_app (goodIn_r _ [52, 53, 54, 55] rfl (by decide +kernel)) ggX5_readFixed_X9_findFormat
set_option maxRecDepth 100000 in
theorem ggX5_readFixed_X4_fix : GoodIn wsX5_readFixed wsX4_fix := goodIn_r _ [62, 10, 63, 85, 86, 87, 88, 89, 90, 91, 92, 93, 94] rfl (by decide +kernel)
set_option maxRecDepth 100000 in
theorem gX5_readFixed_X4_fix : GoodIn wsX5_readFixed (wsV RX5 158 RX4 yX4_fix wsX4_fix) := goodIn_app (goodIn_r _ [59, 60, 61, 8] rfl (by decide +kernel)) ggX5_readFixed_X4_fix
set_option maxRecDepth 100000 in
theorem ggX5_readGroup_X4_find : GoodIn wsX5_readGroup wsX4_find := goodIn_r _ [10, 11, 12, 78, 79, 80, 81, 82, 83, 84, 85, 86, 87] rfl (by decide +kernel)
set_option maxRecDepth 100000 in
theorem gX5_readGroup_X4_find : GoodIn wsX5_readGroup (wsV RX5 141 RX4 yX4_find wsX4_find) := goodIn_app (goodIn_r _ [6, 7, 8, 9] rfl (by decide +kernel)) ggX5_readGroup_X4_find
noncomputable def zc_wsX5_readGroup : List (List Cond) := [wsX5_readGroup_r1, wsX5_readGroup_r2, wsX5_readGroup_r3, wsX90, wsX50, wsX100, wsX40]
set_option maxRecDepth 20000 in
theorem zc_wsX5_readGroup_in : ∀ l ∈ zc_wsX5_readGroup, ∀ w ∈ l, w ∈ wsX5_readGroup := by
  intro l hl
  unfold zc_wsX5_readGroup at hl
  rcases List.mem_cons.mp hl with e | hl
  · rw [e]
    exact fun w h => List.mem_cons_of_mem _ (List.mem_append_left _ (List.mem_append_left _ (List.mem_append_left _ (List.mem_append_left _ (List.mem_append_left _ h)))))
  rcases List.mem_cons.mp hl with e | hl
  · rw [e]
    exact fun w h => List.mem_cons_of_mem _ (List.mem_append_left _ (List.mem_append_left _ (List.mem_append_left _ (List.mem_append_left _ (List.mem_append_right _ (List.mem_append_left _ h))))))
  rcases List.mem_cons.mp hl with e | hl
  · rw [e]
    exact fun w h => List.mem_cons_of_mem _ (List.mem_append_left _ (List.mem_append_left _ (List.mem_append_left _ (List.mem_append_left _ (List.mem_append_right _ (List.mem_append_right _ h))))))
  rcases List.mem_cons.mp hl with e | hl
  · rw [e]
    exact fun w h => List.mem_cons_of_mem _ (List.mem_append_left _ (List.mem_append_left _ (List.mem_append_left _ (List.mem_append_right _ h))))
  rcases List.mem_cons.mp hl with e | hl
  · rw [e]
    exact fun w h => List.mem_cons_of_mem _ (List.mem_append_left _ (List.mem_append_left _ (List.mem_append_right _ h)))
  rcases List.mem_cons.mp hl with e | hl
  · rw [e]
    exact fun w h => List.mem_cons_of_mem _ (List.mem_append_left _ (List.mem_append_right _ h))
  rcases List.mem_cons.mp hl with e | hl
  · rw [e]
    exact fun w h => List.mem_cons_of_mem _ (List.mem_append_right _ h)
  cases hl
theorem zB_X5_readGroup_X50 : ∀ w ∈ wsX50, w ∈ wsX5_readGroup := fun _ h => List.mem_cons_of_mem _ (List.mem_append_left _ (List.mem_append_left _ (List.mem_append_right _ h)))
theorem zB_X5_readGroup_X100 : ∀ w ∈ wsX100, w ∈ wsX5_readGroup := fun _ h => List.mem_cons_of_mem _ (List.mem_append_left _ (List.mem_append_right _ h))
set_option maxRecDepth 100000 in
theorem ggX5_readGroup_X5_readKnown : GoodIn wsX5_readGroup wsX5_readKnown := goodIn_hd (goodIn_c zc_wsX5_readGroup_in [(0, 16)] rfl (by decide +kernel)) (goodIn_app (goodIn_app (goodIn_app (goodIn_c zc_wsX5_readGroup_in [(0, 1), (0, 4), (0, 3), (0, 17), (0, 18), (0, 19), (0, 20), (0, 21), (0, 22), (0, 23), (1, 0), (1, 1), (1, 2), (0, 15), (1, 3), (1, 4), (1, 5), (1, 6), (1, 7), (1, 8), (1, 9), (1, 10), (1, 11), (1, 12)] rfl (by decide +kernel)) (goodIn_c zc_wsX5_readGroup_in [(1, 13), (1, 14), (1, 15), (1, 16), (1, 17), (1, 18), (1, 19), (1, 20), (1, 21), (1, 22), (1, 23), (2, 0), (2, 1), (2, 2)] rfl (by decide +kernel))) (goodIn_sub zB_X5_readGroup_X50 zgw_X50)) (goodIn_sub zB_X5_readGroup_X100 zgw_X100))
set_option maxRecDepth 100000 in
theorem gX5_readGroup_X5_readKnown : GoodIn wsX5_readGroup (wsV RX5 145 RX5 yX5_readKnown wsX5_readKnown) := goodIn_app (goodIn_r _ [13, 14, 15, 16] rfl (by decide +kernel)) ggX5_readGroup_X5_readKnown
set_option maxRecDepth 100000 in
theorem ggX5_readGroup_X5_stopAt : GoodIn wsX5_readGroup wsX5_stopAt := goodIn_r _ [28, 29, 30, 66, 67, 68, 69] rfl (by decide +kernel)
set_option maxRecDepth 100000 in
theorem gX5_readGroup_X5_stopAt : GoodIn wsX5_readGroup (wsV RX5 53 RX5 yX5_stopAt wsX5_stopAt) := goodIn_app (goodIn_r _ [25, 26, 27, 16] rfl (by decide +kernel)) ggX5_readGroup_X5_stopAt
set_option maxRecDepth 100000 in
theorem ggX5_readGroup_X4_join : GoodIn wsX5_readGroup wsX4_join := goodIn_r _ [55, 11, 56, 78, 79, 80, 81, 82, 83, 84, 85, 86, 87] rfl (by decide +kernel)
set_option maxRecDepth 100000 in
theorem gX5_readGroup_X4_join : GoodIn wsX5_readGroup (wsV RX5 161 RX4 yX4_join wsX4_join) := goodIn_app (goodIn_r _ [52, 53, 54, 9] rfl (by decide +kernel)) ggX5_readGroup_X4_join
set_option maxRecDepth 100000 in
theorem ggX5_readAnswer_X4_find : GoodIn wsX5_readAnswer wsX4_find := goodIn_r _ [10, 11, 12, 96, 97, 98, 99, 100, 101, 102, 103, 104, 105] rfl (by decide +kernel)
set_option maxRecDepth 100000 in
theorem gX5_readAnswer_X4_find : GoodIn wsX5_readAnswer (wsV RX5 141 RX4 yX4_find wsX4_find) := goodIn_app (goodIn_r _ [6, 7, 8, 9] rfl (by decide +kernel)) ggX5_readAnswer_X4_find
noncomputable def zc_wsX5_readAnswer : List (List Cond) := [wsX5_readAnswer_r1, wsX5_readAnswer_r2, wsX5_readAnswer_r3, wsX5_readAnswer_r4, wsX90, wsX50, wsX100, wsX40]
set_option maxRecDepth 20000 in
theorem zc_wsX5_readAnswer_in : ∀ l ∈ zc_wsX5_readAnswer, ∀ w ∈ l, w ∈ wsX5_readAnswer := by
  intro l hl
  unfold zc_wsX5_readAnswer at hl
  rcases List.mem_cons.mp hl with e | hl
  · rw [e]
    exact fun w h => List.mem_cons_of_mem _ (List.mem_append_left _ (List.mem_append_left _ (List.mem_append_left _ (List.mem_append_left _ (List.mem_append_left _ h)))))
  rcases List.mem_cons.mp hl with e | hl
  · rw [e]
    exact fun w h => List.mem_cons_of_mem _ (List.mem_append_left _ (List.mem_append_left _ (List.mem_append_left _ (List.mem_append_left _ (List.mem_append_right _ (List.mem_append_left _ h))))))
  rcases List.mem_cons.mp hl with e | hl
  · rw [e]
    exact fun w h => List.mem_cons_of_mem _ (List.mem_append_left _ (List.mem_append_left _ (List.mem_append_left _ (List.mem_append_left _ (List.mem_append_right _ (List.mem_append_right _ (List.mem_append_left _ h)))))))
  rcases List.mem_cons.mp hl with e | hl
  · rw [e]
    exact fun w h => List.mem_cons_of_mem _ (List.mem_append_left _ (List.mem_append_left _ (List.mem_append_left _ (List.mem_append_left _ (List.mem_append_right _ (List.mem_append_right _ (List.mem_append_right _ h)))))))
  rcases List.mem_cons.mp hl with e | hl
  · rw [e]
    exact fun w h => List.mem_cons_of_mem _ (List.mem_append_left _ (List.mem_append_left _ (List.mem_append_left _ (List.mem_append_right _ h))))
  rcases List.mem_cons.mp hl with e | hl
  · rw [e]
    exact fun w h => List.mem_cons_of_mem _ (List.mem_append_left _ (List.mem_append_left _ (List.mem_append_right _ h)))
  rcases List.mem_cons.mp hl with e | hl
  · rw [e]
    exact fun w h => List.mem_cons_of_mem _ (List.mem_append_left _ (List.mem_append_right _ h))
  rcases List.mem_cons.mp hl with e | hl
  · rw [e]
    exact fun w h => List.mem_cons_of_mem _ (List.mem_append_right _ h)
  cases hl
theorem zB_X5_readAnswer_X50 : ∀ w ∈ wsX50, w ∈ wsX5_readAnswer := fun _ h => List.mem_cons_of_mem _ (List.mem_append_left _ (List.mem_append_left _ (List.mem_append_right _ h)))
theorem zB_X5_readAnswer_X100 : ∀ w ∈ wsX100, w ∈ wsX5_readAnswer := fun _ h => List.mem_cons_of_mem _ (List.mem_append_left _ (List.mem_append_right _ h))
set_option maxRecDepth 100000 in
theorem ggX5_readAnswer_X5_readKnown : GoodIn wsX5_readAnswer wsX5_readKnown := goodIn_hd (goodIn_c zc_wsX5_readAnswer_in [(0, 16)] rfl (by decide +kernel)) (goodIn_app (goodIn_app (goodIn_app (goodIn_c zc_wsX5_readAnswer_in [(0, 1), (0, 17), (0, 3), (0, 18), (0, 19), (0, 20), (0, 21), (0, 22), (0, 23), (1, 0), (1, 1), (1, 2), (1, 3), (0, 15), (1, 4), (1, 5), (1, 6), (1, 7), (1, 8), (1, 9), (1, 10), (1, 11), (1, 12), (1, 13)] rfl (by decide +kernel)) (goodIn_c zc_wsX5_readAnswer_in [(1, 14), (1, 15), (1, 16), (1, 17), (1, 18), (1, 19), (1, 20), (1, 21), (1, 22), (1, 23), (2, 0), (2, 1), (2, 2), (2, 3)] rfl (by decide +kernel))) (goodIn_sub zB_X5_readAnswer_X50 zgw_X50)) (goodIn_sub zB_X5_readAnswer_X100 zgw_X100))
set_option maxRecDepth 100000 in
theorem gX5_readAnswer_X5_readKnown : GoodIn wsX5_readAnswer (wsV RX5 145 RX5 yX5_readKnown wsX5_readKnown) := goodIn_app (goodIn_r _ [13, 14, 15, 16] rfl (by decide +kernel)) ggX5_readAnswer_X5_readKnown
set_option maxRecDepth 100000 in
theorem ggX5_readAnswer_X5_readOwn : GoodIn wsX5_readAnswer wsX5_readOwn := goodIn_hd (goodIn_c zc_wsX5_readAnswer_in [(2, 7)] rfl (by decide +kernel)) (goodIn_app (goodIn_app (goodIn_app (goodIn_c zc_wsX5_readAnswer_in [(0, 1), (0, 17), (2, 8), (2, 9), (2, 10), (0, 21), (2, 11), (0, 23), (1, 0), (1, 1), (1, 2), (1, 3), (0, 15), (1, 4), (1, 5), (1, 6), (1, 7), (1, 8), (1, 9), (1, 10), (1, 11), (1, 12), (1, 13), (1, 14)] rfl (by decide +kernel)) (goodIn_c zc_wsX5_readAnswer_in [(1, 15), (1, 16), (1, 17), (1, 18), (1, 19), (1, 20), (1, 21), (1, 22), (1, 23), (2, 0), (2, 1), (2, 2), (2, 3)] rfl (by decide +kernel))) (goodIn_sub zB_X5_readAnswer_X50 zgw_X50)) (goodIn_sub zB_X5_readAnswer_X100 zgw_X100))
set_option maxRecDepth 100000 in
theorem gX5_readAnswer_X5_readOwn : GoodIn wsX5_readAnswer (wsV RX5 105 RX5 yX5_readOwn wsX5_readOwn) := goodIn_app (goodIn_r _ [53, 54, 55, 16] rfl (by decide +kernel)) ggX5_readAnswer_X5_readOwn
set_option maxRecDepth 100000 in
theorem ggX5_readAnswer_X5_readValue : GoodIn wsX5_readAnswer wsX5_readValue := goodIn_hd (goodIn_c zc_wsX5_readAnswer_in [(2, 15)] rfl (by decide +kernel)) (goodIn_app (goodIn_app (goodIn_app (goodIn_c zc_wsX5_readAnswer_in [(0, 1), (0, 17), (2, 16), (0, 2), (0, 3), (2, 17), (2, 18), (2, 19), (0, 21), (2, 20), (0, 23), (1, 15), (1, 7), (1, 8), (1, 9), (1, 10), (1, 11), (1, 12), (1, 13), (1, 14), (1, 0), (1, 16), (1, 17), (1, 18)] rfl (by decide +kernel)) (goodIn_c zc_wsX5_readAnswer_in [(1, 19), (1, 20), (1, 21), (1, 22), (1, 23), (2, 0), (2, 1), (2, 2), (2, 3), (1, 1), (1, 2), (1, 3), (0, 15), (1, 4), (1, 5), (1, 6)] rfl (by decide +kernel))) (goodIn_sub zB_X5_readAnswer_X50 zgw_X50)) (goodIn_sub zB_X5_readAnswer_X100 zgw_X100))
set_option maxRecDepth 100000 in
theorem gX5_readAnswer_X5_readValue : GoodIn wsX5_readAnswer (wsV RX5 109 RX5 yX5_readValue wsX5_readValue) := goodIn_app (goodIn_r _ [61, 62, 63, 16] rfl (by decide +kernel)) ggX5_readAnswer_X5_readValue
set_option maxRecDepth 100000 in
theorem ggX5_readAnswer_X4_allow : GoodIn wsX5_readAnswer wsX4_allow := goodIn_r _ [73, 11, 74, 96, 97, 98, 99, 100, 101, 102, 103, 104, 105] rfl (by decide +kernel)
set_option maxRecDepth 100000 in
theorem gX5_readAnswer_X4_allow : GoodIn wsX5_readAnswer (wsV RX5 164 RX4 yX4_allow wsX4_allow) := goodIn_app (goodIn_r _ [70, 71, 72, 9] rfl (by decide +kernel)) ggX5_readAnswer_X4_allow
set_option maxRecDepth 100000 in
theorem ggX5_readSign_X10_isSign : GoodIn wsX5_readSign wsX10_isSign := goodIn_r _ [7, 8, 9, 42, 43, 44, 45, 46, 47, 48, 49] rfl (by decide +kernel)
set_option maxRecDepth 100000 in
theorem gX5_readSign_X10_isSign : GoodIn wsX5_readSign (wsV RX5 149 RX10 yX10_isSign wsX10_isSign) := goodIn_app (goodIn_r _ [3, 4, 5, 6] rfl (by decide +kernel)) ggX5_readSign_X10_isSign
set_option maxRecDepth 100000 in
theorem ggX5_readSign_X5_stopAt : GoodIn wsX5_readSign wsX5_stopAt := goodIn_r _ [14, 15, 16, 38, 39, 40, 41] rfl (by decide +kernel)
set_option maxRecDepth 100000 in
theorem gX5_readSign_X5_stopAt : GoodIn wsX5_readSign (wsV RX5 53 RX5 yX5_stopAt wsX5_stopAt) := goodIn_app (goodIn_r _ [10, 11, 12, 13] rfl (by decide +kernel)) ggX5_readSign_X5_stopAt
set_option maxRecDepth 100000 in
theorem ggX5_readSign_X10_advance : GoodIn wsX5_readSign wsX10_advance := goodIn_r _ [20, 21, 8, 22, 23, 24, 9, 25, 26, 27, 6, 28, 29, 30, 31, 32, 33, 34, 35, 36, 37, 42, 43, 44, 45, 46, 47, 48, 49] rfl (by decide +kernel)
set_option maxRecDepth 100000 in
theorem gX5_readSign_X10_advance : GoodIn wsX5_readSign (wsV RX5 70 RX10 yX10_advance wsX10_advance) := goodIn_app (goodIn_r _ [17, 18, 19, 6] rfl (by decide +kernel)) ggX5_readSign_X10_advance
set_option maxRecDepth 100000 in
theorem ggX5_readOwn_X10_isOwn : GoodIn wsX5_readOwn wsX10_isOwn := goodIn_r _ [7, 8, 9, 42, 43, 44, 45, 46, 47, 48, 49] rfl (by decide +kernel)
set_option maxRecDepth 100000 in
theorem gX5_readOwn_X10_isOwn : GoodIn wsX5_readOwn (wsV RX5 152 RX10 yX10_isOwn wsX10_isOwn) := goodIn_app (goodIn_r _ [3, 4, 5, 6] rfl (by decide +kernel)) ggX5_readOwn_X10_isOwn
set_option maxRecDepth 100000 in
theorem ggX5_readOwn_X5_stopAt : GoodIn wsX5_readOwn wsX5_stopAt := goodIn_r _ [14, 15, 16, 38, 39, 40, 41] rfl (by decide +kernel)
set_option maxRecDepth 100000 in
theorem gX5_readOwn_X5_stopAt : GoodIn wsX5_readOwn (wsV RX5 53 RX5 yX5_stopAt wsX5_stopAt) := goodIn_app (goodIn_r _ [10, 11, 12, 13] rfl (by decide +kernel)) ggX5_readOwn_X5_stopAt
set_option maxRecDepth 100000 in
theorem ggX5_readOwn_X10_advance : GoodIn wsX5_readOwn wsX10_advance := goodIn_r _ [20, 21, 8, 22, 23, 24, 25, 9, 26, 27, 6, 28, 29, 30, 31, 32, 33, 34, 35, 36, 37, 42, 43, 44, 45, 46, 47, 48, 49] rfl (by decide +kernel)
set_option maxRecDepth 100000 in
theorem gX5_readOwn_X10_advance : GoodIn wsX5_readOwn (wsV RX5 70 RX10 yX10_advance wsX10_advance) := goodIn_app (goodIn_r _ [17, 18, 19, 6] rfl (by decide +kernel)) ggX5_readOwn_X10_advance
set_option maxRecDepth 100000 in
theorem ggX5_readValue_X10_isSign : GoodIn wsX5_readValue wsX10_isSign := goodIn_r _ [10, 11, 12, 45, 46, 47, 48, 49, 50, 51, 52] rfl (by decide +kernel)
set_option maxRecDepth 100000 in
theorem gX5_readValue_X10_isSign : GoodIn wsX5_readValue (wsV RX5 149 RX10 yX10_isSign wsX10_isSign) := goodIn_app (goodIn_r _ [6, 7, 8, 9] rfl (by decide +kernel)) ggX5_readValue_X10_isSign
set_option maxRecDepth 100000 in
theorem ggX5_readValue_X10_advance : GoodIn wsX5_readValue wsX10_advance := goodIn_r _ [16, 17, 11, 18, 19, 20, 12, 21, 22, 23, 9, 24, 25, 26, 27, 28, 29, 30, 31, 32, 33, 45, 46, 47, 48, 49, 50, 51, 52] rfl (by decide +kernel)
set_option maxRecDepth 100000 in
theorem gX5_readValue_X10_advance : GoodIn wsX5_readValue (wsV RX5 70 RX10 yX10_advance wsX10_advance) := goodIn_app (goodIn_r _ [13, 14, 15, 9] rfl (by decide +kernel)) ggX5_readValue_X10_advance
set_option maxRecDepth 100000 in
theorem ggX5_readValue_X5_stopAt : GoodIn wsX5_readValue wsX5_stopAt := goodIn_r _ [38, 39, 40, 41, 42, 43, 44] rfl (by decide +kernel)
set_option maxRecDepth 100000 in
theorem gX5_readValue_X5_stopAt : GoodIn wsX5_readValue (wsV RX5 53 RX5 yX5_stopAt wsX5_stopAt) := goodIn_app (goodIn_r _ [34, 35, 36, 37] rfl (by decide +kernel)) ggX5_readValue_X5_stopAt
set_option maxRecDepth 100000 in
theorem ggX5_readNewName_X10_isName : GoodIn wsX5_readNewName wsX10_isName := goodIn_r _ [10, 11, 12, 59, 60, 61, 62, 63, 64, 65, 66] rfl (by decide +kernel)
set_option maxRecDepth 100000 in
theorem gX5_readNewName_X10_isName : GoodIn wsX5_readNewName (wsV RX5 167 RX10 yX10_isName wsX10_isName) := goodIn_app (goodIn_r _ [6, 7, 8, 9] rfl (by decide +kernel)) ggX5_readNewName_X10_isName
set_option maxRecDepth 100000 in
theorem ggX5_readNewName_X5_stopAt : GoodIn wsX5_readNewName wsX5_stopAt := goodIn_r _ [17, 18, 19, 55, 56, 57, 58] rfl (by decide +kernel)
set_option maxRecDepth 100000 in
theorem gX5_readNewName_X5_stopAt : GoodIn wsX5_readNewName (wsV RX5 53 RX5 yX5_stopAt wsX5_stopAt) := goodIn_app (goodIn_r _ [13, 14, 15, 16] rfl (by decide +kernel)) ggX5_readNewName_X5_stopAt
set_option maxRecDepth 100000 in
theorem ggX5_readNewName_X9_findFormat : GoodIn wsX5_readNewName wsX9_findFormat := goodIn_r _ [24, 25, 26, 67, 68, 69, 70, 71, 72, 73, 74, 75] rfl (by decide +kernel)
set_option maxRecDepth 100000 in
theorem gX5_readNewName_X9_findFormat : GoodIn wsX5_readNewName (wsV RX5 155 RX9 yX9_findFormat wsX9_findFormat) := goodIn_app (goodIn_r _ [20, 21, 22, 23] rfl (by decide +kernel)) ggX5_readNewName_X9_findFormat
set_option maxRecDepth 100000 in
theorem ggX5_readNewName_X4_find : GoodIn wsX5_readNewName wsX4_find := goodIn_r _ [31, 32, 33, 76, 77, 78, 79, 80, 81, 82, 83, 84, 85] rfl (by decide +kernel)
set_option maxRecDepth 100000 in
theorem gX5_readNewName_X4_find : GoodIn wsX5_readNewName (wsV RX5 141 RX4 yX4_find wsX4_find) := goodIn_app (goodIn_r _ [27, 28, 29, 30] rfl (by decide +kernel)) ggX5_readNewName_X4_find
set_option maxRecDepth 100000 in
theorem ggX5_readNewName_X10_advance : GoodIn wsX5_readNewName wsX10_advance := goodIn_r _ [37, 38, 11, 39, 40, 41, 42, 12, 43, 44, 9, 45, 46, 47, 48, 49, 50, 51, 52, 53, 54, 59, 60, 61, 62, 63, 64, 65, 66] rfl (by decide +kernel)
set_option maxRecDepth 100000 in
theorem gX5_readNewName_X10_advance : GoodIn wsX5_readNewName (wsV RX5 70 RX10 yX10_advance wsX10_advance) := goodIn_app (goodIn_r _ [34, 35, 36, 9] rfl (by decide +kernel)) ggX5_readNewName_X10_advance
set_option maxRecDepth 100000 in
theorem ggX5_readKnown_X10_isName : GoodIn wsX5_readKnown wsX10_isName := goodIn_r _ [8, 9, 10, 43, 44, 45, 46, 47, 48, 49, 50] rfl (by decide +kernel)
set_option maxRecDepth 100000 in
theorem gX5_readKnown_X10_isName : GoodIn wsX5_readKnown (wsV RX5 167 RX10 yX10_isName wsX10_isName) := goodIn_app (goodIn_r _ [4, 5, 6, 7] rfl (by decide +kernel)) ggX5_readKnown_X10_isName
set_option maxRecDepth 100000 in
theorem ggX5_readKnown_X5_stopAt : GoodIn wsX5_readKnown wsX5_stopAt := goodIn_r _ [15, 16, 17, 39, 40, 41, 42] rfl (by decide +kernel)
set_option maxRecDepth 100000 in
theorem gX5_readKnown_X5_stopAt : GoodIn wsX5_readKnown (wsV RX5 53 RX5 yX5_stopAt wsX5_stopAt) := goodIn_app (goodIn_r _ [11, 12, 13, 14] rfl (by decide +kernel)) ggX5_readKnown_X5_stopAt
set_option maxRecDepth 100000 in
theorem ggX5_readKnown_X10_advance : GoodIn wsX5_readKnown wsX10_advance := goodIn_r _ [21, 22, 9, 23, 24, 25, 26, 10, 27, 28, 7, 29, 30, 31, 32, 33, 34, 35, 36, 37, 38, 43, 44, 45, 46, 47, 48, 49, 50] rfl (by decide +kernel)
set_option maxRecDepth 100000 in
theorem gX5_readKnown_X10_advance : GoodIn wsX5_readKnown (wsV RX5 70 RX10 yX10_advance wsX10_advance) := goodIn_app (goodIn_r _ [18, 19, 20, 7] rfl (by decide +kernel)) ggX5_readKnown_X10_advance
noncomputable def zc_wsX6_fill : List (List Cond) := [wsX6_fill_r1, wsX6_fill_r2, wsX6_fill_r3, wsX6_fill_r4, wsX40, wsX60]
set_option maxRecDepth 20000 in
theorem zc_wsX6_fill_in : ∀ l ∈ zc_wsX6_fill, ∀ w ∈ l, w ∈ wsX6_fill := by
  intro l hl
  unfold zc_wsX6_fill at hl
  rcases List.mem_cons.mp hl with e | hl
  · rw [e]
    exact fun w h => List.mem_cons_of_mem _ (List.mem_append_left _ (List.mem_append_left _ (List.mem_append_left _ h)))
  rcases List.mem_cons.mp hl with e | hl
  · rw [e]
    exact fun w h => List.mem_cons_of_mem _ (List.mem_append_left _ (List.mem_append_left _ (List.mem_append_right _ (List.mem_append_left _ h))))
  rcases List.mem_cons.mp hl with e | hl
  · rw [e]
    exact fun w h => List.mem_cons_of_mem _ (List.mem_append_left _ (List.mem_append_left _ (List.mem_append_right _ (List.mem_append_right _ (List.mem_append_left _ h)))))
  rcases List.mem_cons.mp hl with e | hl
  · rw [e]
    exact fun w h => List.mem_cons_of_mem _ (List.mem_append_left _ (List.mem_append_left _ (List.mem_append_right _ (List.mem_append_right _ (List.mem_append_right _ h)))))
  rcases List.mem_cons.mp hl with e | hl
  · rw [e]
    exact fun w h => List.mem_cons_of_mem _ (List.mem_append_left _ (List.mem_append_right _ h))
  rcases List.mem_cons.mp hl with e | hl
  · rw [e]
    exact fun w h => List.mem_cons_of_mem _ (List.mem_append_right _ h)
  cases hl
theorem zB_X6_fill_X40 : ∀ w ∈ wsX40, w ∈ wsX6_fill := fun _ h => List.mem_cons_of_mem _ (List.mem_append_left _ (List.mem_append_right _ h))
theorem zB_X6_fill_X60 : ∀ w ∈ wsX60, w ∈ wsX6_fill := fun _ h => List.mem_cons_of_mem _ (List.mem_append_right _ h)
set_option maxRecDepth 100000 in
theorem ggX6_fill_X6_lowest : GoodIn wsX6_fill wsX6_lowest := goodIn_hd (goodIn_c zc_wsX6_fill_in [(0, 9)] rfl (by decide +kernel)) (goodIn_app (goodIn_app (goodIn_app (goodIn_c zc_wsX6_fill_in [(0, 10), (0, 11), (0, 12), (0, 13), (0, 14), (0, 15), (0, 16), (0, 17), (0, 8), (0, 18), (0, 1), (0, 19), (0, 20), (0, 21), (0, 22), (0, 23), (1, 0), (1, 1), (1, 2), (1, 3), (1, 4), (1, 5), (1, 6), (1, 7)] rfl (by decide +kernel)) (goodIn_app (goodIn_c zc_wsX6_fill_in [(1, 8), (1, 9), (1, 10), (0, 2), (1, 11), (1, 12), (1, 13), (1, 14), (1, 15), (1, 16), (1, 17), (1, 18), (1, 19), (1, 20), (1, 21), (1, 22), (1, 23), (2, 0), (2, 1), (2, 2), (2, 3), (2, 4), (2, 5), (2, 6)] rfl (by decide +kernel)) (goodIn_c zc_wsX6_fill_in [(2, 7)] rfl (by decide +kernel)))) (goodIn_sub zB_X6_fill_X40 zgw_X40)) (goodIn_sub zB_X6_fill_X60 zgw_X60))
set_option maxRecDepth 100000 in
theorem gX6_fill_X6_lowest : GoodIn wsX6_fill (wsV RX6 28 RX6 yX6_lowest wsX6_lowest) := goodIn_app (goodIn_r _ [6, 7, 8, 9] rfl (by decide +kernel)) ggX6_fill_X6_lowest
set_option maxRecDepth 100000 in
theorem ggX6_fill_X6_held : GoodIn wsX6_fill wsX6_held := goodIn_r _ [59, 60, 61, 12, 13, 14, 15, 56, 42, 43] rfl (by decide +kernel)
set_option maxRecDepth 100000 in
theorem gX6_fill_X6_held : GoodIn wsX6_fill (va_wsS RX6 32 yX6_held wsX6_held) := goodIn_app (goodIn_r _ [57, 58, 9] rfl (by decide +kernel)) ggX6_fill_X6_held
set_option maxRecDepth 100000 in
theorem ggX6_fill_X6_highest : GoodIn wsX6_fill wsX6_highest := goodIn_hd (goodIn_c zc_wsX6_fill_in [(2, 16)] rfl (by decide +kernel)) (goodIn_app (goodIn_app (goodIn_app (goodIn_c zc_wsX6_fill_in [(0, 10), (2, 7), (1, 17), (0, 13), (1, 18), (1, 7), (1, 8), (1, 9), (0, 8), (1, 10), (0, 2), (0, 19), (0, 20), (0, 21), (0, 22), (0, 23), (1, 0), (1, 1), (1, 2), (1, 3), (1, 4), (1, 5), (1, 6), (0, 15)] rfl (by decide +kernel)) (goodIn_app (goodIn_c zc_wsX6_fill_in [(0, 16), (0, 17), (0, 18), (0, 1), (1, 11), (1, 12), (1, 13), (1, 14), (1, 15), (0, 12), (0, 14), (1, 16), (1, 19), (1, 20), (1, 21), (1, 22), (1, 23), (2, 0), (2, 1), (2, 2), (2, 3), (2, 4), (2, 5), (2, 6)] rfl (by decide +kernel)) (goodIn_c zc_wsX6_fill_in [(0, 11)] rfl (by decide +kernel)))) (goodIn_sub zB_X6_fill_X40 zgw_X40)) (goodIn_sub zB_X6_fill_X60 zgw_X60))
set_option maxRecDepth 100000 in
theorem gX6_fill_X6_highest : GoodIn wsX6_fill (wsV RX6 36 RX6 yX6_highest wsX6_highest) := goodIn_app (goodIn_r _ [62, 63, 64, 9] rfl (by decide +kernel)) ggX6_fill_X6_highest
set_option maxRecDepth 100000 in
theorem ggX6_fill_X6_amountOf : GoodIn wsX6_fill wsX6_amountOf := goodIn_r _ [69, 2, 70, 71, 14, 72, 3, 56, 42, 43, 87, 88, 89] rfl (by decide +kernel)
set_option maxRecDepth 100000 in
theorem gX6_fill_X6_amountOf : GoodIn wsX6_fill (wsV RX6 39 RX6 yX6_amountOf wsX6_amountOf) := goodIn_app (goodIn_r _ [66, 67, 68, 9] rfl (by decide +kernel)) ggX6_fill_X6_amountOf
set_option maxRecDepth 100000 in
theorem ggX6_fill_X4_madeOf : GoodIn wsX6_fill wsX4_madeOf := goodIn_r _ [24, 25, 26, 77, 78, 79, 80, 81, 82, 83, 84, 85, 86] rfl (by decide +kernel)
set_option maxRecDepth 100000 in
theorem gX6_fill_X4_madeOf : GoodIn wsX6_fill (wsV RX6 45 RX4 yX4_madeOf wsX4_madeOf) := goodIn_app (goodIn_r _ [20, 21, 22, 23] rfl (by decide +kernel)) ggX6_fill_X4_madeOf
set_option maxRecDepth 100000 in
theorem ggX6_fill_X6_isWide : GoodIn wsX6_fill wsX6_isWide := goodIn_r _ [76, 4, 87, 88, 89] rfl (by decide +kernel)
set_option maxRecDepth 100000 in
theorem gX6_fill_X6_isWide : GoodIn wsX6_fill (wsV RX6 49 RX6 yX6_isWide wsX6_isWide) := goodIn_app (goodIn_r _ [73, 74, 75, 9] rfl (by decide +kernel)) ggX6_fill_X6_isWide
set_option maxRecDepth 100000 in
theorem ggX6_amountOfWhat_X4_madeOf : GoodIn wsX6_amountOfWhat wsX4_madeOf := goodIn_r _ [14, 15, 16, 25, 26, 27, 28, 29, 30, 31, 32, 33, 34] rfl (by decide +kernel)
set_option maxRecDepth 100000 in
theorem gX6_amountOfWhat_X4_madeOf : GoodIn wsX6_amountOfWhat (wsV RX6 45 RX4 yX4_madeOf wsX4_madeOf) := goodIn_app (goodIn_r _ [10, 11, 12, 13] rfl (by decide +kernel)) ggX6_amountOfWhat_X4_madeOf
set_option maxRecDepth 100000 in
theorem ggX6_amountOfWhat_X4_amountOf : GoodIn wsX6_amountOfWhat wsX4_amountOf := goodIn_r _ [20, 15, 21, 25, 26, 27, 28, 29, 30, 31, 32, 33, 34] rfl (by decide +kernel)
set_option maxRecDepth 100000 in
theorem gX6_amountOfWhat_X4_amountOf : GoodIn wsX6_amountOfWhat (wsV RX6 69 RX4 yX4_amountOf wsX4_amountOf) := goodIn_app (goodIn_r _ [17, 18, 19, 13] rfl (by decide +kernel)) ggX6_amountOfWhat_X4_amountOf
set_option maxRecDepth 100000 in
theorem ggX6_lowOf_X4_madeOf : GoodIn wsX6_lowOf wsX4_madeOf := goodIn_r _ [6, 7, 8, 17, 18, 19, 20, 21, 22, 23, 24, 25, 26] rfl (by decide +kernel)
set_option maxRecDepth 100000 in
theorem gX6_lowOf_X4_madeOf : GoodIn wsX6_lowOf (wsV RX6 45 RX4 yX4_madeOf wsX4_madeOf) := goodIn_app (goodIn_r _ [2, 3, 4, 5] rfl (by decide +kernel)) ggX6_lowOf_X4_madeOf
set_option maxRecDepth 100000 in
theorem ggX6_lowOf_X4_amountOf : GoodIn wsX6_lowOf wsX4_amountOf := goodIn_r _ [12, 7, 13, 17, 18, 19, 20, 21, 22, 23, 24, 25, 26] rfl (by decide +kernel)
set_option maxRecDepth 100000 in
theorem gX6_lowOf_X4_amountOf : GoodIn wsX6_lowOf (wsV RX6 69 RX4 yX4_amountOf wsX4_amountOf) := goodIn_app (goodIn_r _ [9, 10, 11, 5] rfl (by decide +kernel)) ggX6_lowOf_X4_amountOf
set_option maxRecDepth 100000 in
theorem ggX6_highOf_X4_madeOf : GoodIn wsX6_highOf wsX4_madeOf := goodIn_r _ [6, 7, 8, 17, 18, 19, 20, 21, 22, 23, 24, 25, 26] rfl (by decide +kernel)
set_option maxRecDepth 100000 in
theorem gX6_highOf_X4_madeOf : GoodIn wsX6_highOf (wsV RX6 45 RX4 yX4_madeOf wsX4_madeOf) := goodIn_app (goodIn_r _ [2, 3, 4, 5] rfl (by decide +kernel)) ggX6_highOf_X4_madeOf
set_option maxRecDepth 100000 in
theorem ggX6_highOf_X4_amountOf : GoodIn wsX6_highOf wsX4_amountOf := goodIn_r _ [12, 7, 13, 17, 18, 19, 20, 21, 22, 23, 24, 25, 26] rfl (by decide +kernel)
set_option maxRecDepth 100000 in
theorem gX6_highOf_X4_amountOf : GoodIn wsX6_highOf (wsV RX6 69 RX4 yX4_amountOf wsX4_amountOf) := goodIn_app (goodIn_r _ [9, 10, 11, 5] rfl (by decide +kernel)) ggX6_highOf_X4_amountOf
theorem zB_X6_lowest_X60 : ∀ w ∈ wsX60, w ∈ wsX6_lowest := fun _ h => List.mem_cons_of_mem _ (List.mem_append_right _ h)
theorem zB_X6_lowest_X40 : ∀ w ∈ wsX40, w ∈ wsX6_lowest := fun _ h => List.mem_cons_of_mem _ (List.mem_append_left _ (List.mem_append_right _ h))
set_option maxRecDepth 100000 in
theorem ggX6_lowest_X6_lowOf : GoodIn wsX6_lowest wsX6_lowOf := goodIn_hd (goodIn_r _ [10] rfl (by decide +kernel)) (goodIn_app (goodIn_app (goodIn_r _ [11, 12, 13, 14, 15, 16, 17, 18, 19, 20, 21, 22, 23] rfl (by decide +kernel)) (goodIn_sub zB_X6_lowest_X60 zgw_X60)) (goodIn_sub zB_X6_lowest_X40 zgw_X40))
set_option maxRecDepth 100000 in
theorem gX6_lowest_X6_lowOf : GoodIn wsX6_lowest (wsV RX6 76 RX6 yX6_lowOf wsX6_lowOf) := goodIn_app (goodIn_r _ [6, 7, 8, 9] rfl (by decide +kernel)) ggX6_lowest_X6_lowOf
set_option maxRecDepth 100000 in
theorem ggX6_lowest_X6_highOf : GoodIn wsX6_lowest wsX6_highOf := goodIn_hd (goodIn_r _ [27] rfl (by decide +kernel)) (goodIn_app (goodIn_app (goodIn_r _ [28, 12, 13, 14, 15, 16, 17, 18, 19, 20, 21, 22, 23] rfl (by decide +kernel)) (goodIn_sub zB_X6_lowest_X60 zgw_X60)) (goodIn_sub zB_X6_lowest_X40 zgw_X40))
set_option maxRecDepth 100000 in
theorem gX6_lowest_X6_highOf : GoodIn wsX6_lowest (wsV RX6 80 RX6 yX6_highOf wsX6_highOf) := goodIn_app (goodIn_r _ [24, 25, 26, 9] rfl (by decide +kernel)) ggX6_lowest_X6_highOf
set_option maxRecDepth 100000 in
theorem ggX6_lowest_X11_apply : GoodIn wsX6_lowest wsX11_apply := goodIn_r _ [31, 32, 33, 3, 4, 5, 34, 35, 36, 37, 38, 30, 39, 40, 41, 42, 43, 44] rfl (by decide +kernel)
set_option maxRecDepth 100000 in
theorem gX6_lowest_X11_apply_n83 : GoodIn wsX6_lowest (wsX11_apply) := ggX6_lowest_X11_apply
set_option maxRecDepth 100000 in
theorem ggX6_lowest_X6_endProduct : GoodIn wsX6_lowest wsX6_endProduct := goodIn_hd (goodIn_r _ [48] rfl (by decide +kernel)) (goodIn_app (goodIn_app (goodIn_app (goodIn_r _ [49, 35, 4, 36, 2, 3, 5, 6, 7, 8, 9, 10, 11, 12, 13, 14, 15, 16, 17, 18, 19, 20, 21, 22] rfl (by decide +kernel)) (goodIn_r _ [23, 29, 30, 31, 32, 33, 34, 37, 38, 39, 40, 41, 42, 43, 44, 24, 25, 26, 27, 28] rfl (by decide +kernel))) (goodIn_sub zB_X6_lowest_X60 zgw_X60)) (goodIn_sub zB_X6_lowest_X40 zgw_X40))
set_option maxRecDepth 100000 in
theorem gX6_lowest_X6_endProduct : GoodIn wsX6_lowest (wsV RX6 87 RX6 yX6_endProduct wsX6_endProduct) := goodIn_app (goodIn_r _ [45, 46, 47, 9] rfl (by decide +kernel)) ggX6_lowest_X6_endProduct
theorem zB_X6_highest_X60 : ∀ w ∈ wsX60, w ∈ wsX6_highest := fun _ h => List.mem_cons_of_mem _ (List.mem_append_right _ h)
theorem zB_X6_highest_X40 : ∀ w ∈ wsX40, w ∈ wsX6_highest := fun _ h => List.mem_cons_of_mem _ (List.mem_append_left _ (List.mem_append_right _ h))
set_option maxRecDepth 100000 in
theorem ggX6_highest_X6_highOf : GoodIn wsX6_highest wsX6_highOf := goodIn_hd (goodIn_r _ [10] rfl (by decide +kernel)) (goodIn_app (goodIn_app (goodIn_r _ [11, 12, 13, 14, 15, 16, 17, 18, 19, 20, 21, 22, 23] rfl (by decide +kernel)) (goodIn_sub zB_X6_highest_X60 zgw_X60)) (goodIn_sub zB_X6_highest_X40 zgw_X40))
set_option maxRecDepth 100000 in
theorem gX6_highest_X6_highOf : GoodIn wsX6_highest (wsV RX6 80 RX6 yX6_highOf wsX6_highOf) := goodIn_app (goodIn_r _ [6, 7, 8, 9] rfl (by decide +kernel)) ggX6_highest_X6_highOf
set_option maxRecDepth 100000 in
theorem ggX6_highest_X6_lowOf : GoodIn wsX6_highest wsX6_lowOf := goodIn_hd (goodIn_r _ [27] rfl (by decide +kernel)) (goodIn_app (goodIn_app (goodIn_r _ [28, 12, 13, 14, 15, 16, 17, 18, 19, 20, 21, 22, 23] rfl (by decide +kernel)) (goodIn_sub zB_X6_highest_X60 zgw_X60)) (goodIn_sub zB_X6_highest_X40 zgw_X40))
set_option maxRecDepth 100000 in
theorem gX6_highest_X6_lowOf : GoodIn wsX6_highest (wsV RX6 76 RX6 yX6_lowOf wsX6_lowOf) := goodIn_app (goodIn_r _ [24, 25, 26, 9] rfl (by decide +kernel)) ggX6_highest_X6_lowOf
set_option maxRecDepth 100000 in
theorem ggX6_highest_X11_apply : GoodIn wsX6_highest wsX11_apply := goodIn_r _ [31, 32, 33, 34, 4, 35, 36, 3, 5, 37, 38, 30, 39, 40, 41, 42, 43, 44] rfl (by decide +kernel)
set_option maxRecDepth 100000 in
theorem gX6_highest_X11_apply_n83 : GoodIn wsX6_highest (wsX11_apply) := ggX6_highest_X11_apply
set_option maxRecDepth 100000 in
theorem ggX6_highest_X6_endProduct : GoodIn wsX6_highest wsX6_endProduct := goodIn_hd (goodIn_r _ [48] rfl (by decide +kernel)) (goodIn_app (goodIn_app (goodIn_app (goodIn_r _ [2, 3, 4, 5, 49, 34, 35, 24, 25, 26, 9, 27, 28, 12, 13, 14, 15, 16, 17, 18, 19, 20, 21, 22] rfl (by decide +kernel)) (goodIn_r _ [23, 29, 30, 31, 32, 33, 36, 37, 38, 39, 40, 41, 42, 43, 44, 6, 7, 8, 10, 11] rfl (by decide +kernel))) (goodIn_sub zB_X6_highest_X60 zgw_X60)) (goodIn_sub zB_X6_highest_X40 zgw_X40))
set_option maxRecDepth 100000 in
theorem gX6_highest_X6_endProduct : GoodIn wsX6_highest (wsV RX6 87 RX6 yX6_endProduct wsX6_endProduct) := goodIn_app (goodIn_r _ [45, 46, 47, 9] rfl (by decide +kernel)) ggX6_highest_X6_endProduct
theorem zB_X6_endProduct_X60 : ∀ w ∈ wsX60, w ∈ wsX6_endProduct := fun _ h => List.mem_cons_of_mem _ (List.mem_append_left _ (List.mem_append_right _ h))
theorem zB_X6_endProduct_X40 : ∀ w ∈ wsX40, w ∈ wsX6_endProduct := fun _ h => List.mem_cons_of_mem _ (List.mem_append_right _ h)
set_option maxRecDepth 100000 in
theorem ggX6_endProduct_X6_lowOf : GoodIn wsX6_endProduct wsX6_lowOf := goodIn_hd (goodIn_r _ [12] rfl (by decide +kernel)) (goodIn_app (goodIn_app (goodIn_r _ [13, 14, 15, 16, 17, 18, 19, 20, 21, 22, 23, 24, 25] rfl (by decide +kernel)) (goodIn_sub zB_X6_endProduct_X60 zgw_X60)) (goodIn_sub zB_X6_endProduct_X40 zgw_X40))
set_option maxRecDepth 100000 in
theorem gX6_endProduct_X6_lowOf : GoodIn wsX6_endProduct (wsV RX6 76 RX6 yX6_lowOf wsX6_lowOf) := goodIn_app (goodIn_r _ [8, 9, 10, 11] rfl (by decide +kernel)) ggX6_endProduct_X6_lowOf
set_option maxRecDepth 100000 in
theorem ggX6_endProduct_X11_apply : GoodIn wsX6_endProduct wsX11_apply := goodIn_r _ [28, 29, 30, 6, 3, 7, 31, 2, 4, 32, 33, 27, 34, 35, 36, 37, 38, 39] rfl (by decide +kernel)
set_option maxRecDepth 100000 in
theorem gX6_endProduct_X11_apply_n83 : GoodIn wsX6_endProduct (wsX11_apply) := ggX6_endProduct_X11_apply
set_option maxRecDepth 100000 in
theorem ggX6_endProduct_X6_highOf : GoodIn wsX6_endProduct wsX6_highOf := goodIn_hd (goodIn_r _ [43] rfl (by decide +kernel)) (goodIn_app (goodIn_app (goodIn_r _ [44, 14, 15, 16, 17, 18, 19, 20, 21, 22, 23, 24, 25] rfl (by decide +kernel)) (goodIn_sub zB_X6_endProduct_X60 zgw_X60)) (goodIn_sub zB_X6_endProduct_X40 zgw_X40))
set_option maxRecDepth 100000 in
theorem gX6_endProduct_X6_highOf : GoodIn wsX6_endProduct (wsV RX6 80 RX6 yX6_highOf wsX6_highOf) := goodIn_app (goodIn_r _ [40, 41, 42, 11] rfl (by decide +kernel)) ggX6_endProduct_X6_highOf
noncomputable def zc_wsX7_reckon : List (List Cond) := [wsX7_reckon_r1, wsX7_reckon_r2, wsX7_reckon_r3, wsX7_reckon_r4, wsX70, wsX90, wsX40, wsX20, wsX60]
set_option maxRecDepth 20000 in
theorem zc_wsX7_reckon_in : ∀ l ∈ zc_wsX7_reckon, ∀ w ∈ l, w ∈ wsX7_reckon := by
  intro l hl
  unfold zc_wsX7_reckon at hl
  rcases List.mem_cons.mp hl with e | hl
  · rw [e]
    exact fun w h => List.mem_cons_of_mem _ (List.mem_append_left _ (List.mem_append_left _ (List.mem_append_left _ (List.mem_append_left _ (List.mem_append_left _ (List.mem_append_left _ h))))))
  rcases List.mem_cons.mp hl with e | hl
  · rw [e]
    exact fun w h => List.mem_cons_of_mem _ (List.mem_append_left _ (List.mem_append_left _ (List.mem_append_left _ (List.mem_append_left _ (List.mem_append_left _ (List.mem_append_right _ (List.mem_append_left _ h)))))))
  rcases List.mem_cons.mp hl with e | hl
  · rw [e]
    exact fun w h => List.mem_cons_of_mem _ (List.mem_append_left _ (List.mem_append_left _ (List.mem_append_left _ (List.mem_append_left _ (List.mem_append_left _ (List.mem_append_right _ (List.mem_append_right _ (List.mem_append_left _ h))))))))
  rcases List.mem_cons.mp hl with e | hl
  · rw [e]
    exact fun w h => List.mem_cons_of_mem _ (List.mem_append_left _ (List.mem_append_left _ (List.mem_append_left _ (List.mem_append_left _ (List.mem_append_left _ (List.mem_append_right _ (List.mem_append_right _ (List.mem_append_right _ h))))))))
  rcases List.mem_cons.mp hl with e | hl
  · rw [e]
    exact fun w h => List.mem_cons_of_mem _ (List.mem_append_left _ (List.mem_append_left _ (List.mem_append_left _ (List.mem_append_left _ (List.mem_append_right _ h)))))
  rcases List.mem_cons.mp hl with e | hl
  · rw [e]
    exact fun w h => List.mem_cons_of_mem _ (List.mem_append_left _ (List.mem_append_left _ (List.mem_append_left _ (List.mem_append_right _ h))))
  rcases List.mem_cons.mp hl with e | hl
  · rw [e]
    exact fun w h => List.mem_cons_of_mem _ (List.mem_append_left _ (List.mem_append_left _ (List.mem_append_right _ h)))
  rcases List.mem_cons.mp hl with e | hl
  · rw [e]
    exact fun w h => List.mem_cons_of_mem _ (List.mem_append_left _ (List.mem_append_right _ h))
  rcases List.mem_cons.mp hl with e | hl
  · rw [e]
    exact fun w h => List.mem_cons_of_mem _ (List.mem_append_right _ h)
  cases hl
theorem zB_X7_reckon_X90 : ∀ w ∈ wsX90, w ∈ wsX7_reckon := fun _ h => List.mem_cons_of_mem _ (List.mem_append_left _ (List.mem_append_left _ (List.mem_append_left _ (List.mem_append_right _ h))))
theorem zB_X7_reckon_X40 : ∀ w ∈ wsX40, w ∈ wsX7_reckon := fun _ h => List.mem_cons_of_mem _ (List.mem_append_left _ (List.mem_append_left _ (List.mem_append_right _ h)))
theorem zB_X7_reckon_X20 : ∀ w ∈ wsX20, w ∈ wsX7_reckon := fun _ h => List.mem_cons_of_mem _ (List.mem_append_left _ (List.mem_append_right _ h))
theorem zB_X7_reckon_X70 : ∀ w ∈ wsX70, w ∈ wsX7_reckon := fun _ h => List.mem_cons_of_mem _ (List.mem_append_left _ (List.mem_append_left _ (List.mem_append_left _ (List.mem_append_left _ (List.mem_append_right _ h)))))
theorem zB_X7_reckon_X60 : ∀ w ∈ wsX60, w ∈ wsX7_reckon := fun _ h => List.mem_cons_of_mem _ (List.mem_append_right _ h)
set_option maxRecDepth 100000 in
theorem ggX7_reckon_X7_errorOf : GoodIn wsX7_reckon wsX7_errorOf := goodIn_hd (goodIn_c zc_wsX7_reckon_in [(0, 10)] rfl (by decide +kernel)) (goodIn_app (goodIn_app (goodIn_app (goodIn_app (goodIn_app (goodIn_app (goodIn_c zc_wsX7_reckon_in [(0, 2), (0, 11), (0, 12), (0, 13), (0, 14), (0, 15), (0, 16), (0, 17), (0, 18), (0, 19), (0, 20), (0, 21), (0, 22), (0, 23), (1, 0), (1, 1), (1, 2), (1, 3), (1, 4), (1, 5), (1, 6), (1, 7), (1, 8), (1, 9)] rfl (by decide +kernel)) (goodIn_app (goodIn_c zc_wsX7_reckon_in [(1, 10), (1, 11), (0, 9), (1, 12), (0, 4), (1, 13), (1, 14), (1, 15), (1, 16), (1, 17), (1, 18), (1, 19), (1, 20), (1, 21), (1, 22), (1, 23), (2, 0), (2, 1), (2, 2), (2, 3), (2, 4), (2, 5), (2, 6), (2, 7)] rfl (by decide +kernel)) (goodIn_c zc_wsX7_reckon_in [(2, 8), (2, 9), (2, 10), (2, 11), (2, 12), (2, 13), (2, 14), (2, 15), (2, 16)] rfl (by decide +kernel)))) (goodIn_sub zB_X7_reckon_X90 zgw_X90)) (goodIn_sub zB_X7_reckon_X40 zgw_X40)) (goodIn_sub zB_X7_reckon_X20 zgw_X20)) (goodIn_sub zB_X7_reckon_X70 zgw_X70)) (goodIn_sub zB_X7_reckon_X60 zgw_X60))
set_option maxRecDepth 100000 in
theorem gX7_reckon_X7_errorOf : GoodIn wsX7_reckon (wsV RX7 33 RX7 yX7_errorOf wsX7_errorOf) := goodIn_app (goodIn_r _ [7, 8, 9, 10] rfl (by decide +kernel)) ggX7_reckon_X7_errorOf
set_option maxRecDepth 100000 in
theorem ggX7_reckon_X9_formatOf : GoodIn wsX7_reckon wsX9_formatOf := goodIn_hd (goodIn_c zc_wsX7_reckon_in [(0, 22)] rfl (by decide +kernel)) (goodIn_app (goodIn_app (goodIn_app (goodIn_c zc_wsX7_reckon_in [(0, 23), (1, 0), (1, 1), (1, 2)] rfl (by decide +kernel)) (goodIn_sub zB_X7_reckon_X90 zgw_X90)) (goodIn_sub zB_X7_reckon_X40 zgw_X40)) (goodIn_sub zB_X7_reckon_X20 zgw_X20))
set_option maxRecDepth 100000 in
theorem gX7_reckon_X9_formatOf : GoodIn wsX7_reckon (wsV RX7 37 RX9 yX9_formatOf wsX9_formatOf) := goodIn_app (goodIn_r _ [19, 20, 21, 22] rfl (by decide +kernel)) ggX7_reckon_X9_formatOf
set_option maxRecDepth 100000 in
theorem ggX7_reckon_X9_mostOf : GoodIn wsX7_reckon wsX9_mostOf := goodIn_r _ [69, 32, 70, 87, 88, 89, 90, 91, 92, 93, 94, 95] rfl (by decide +kernel)
set_option maxRecDepth 100000 in
theorem gX7_reckon_X9_mostOf : GoodIn wsX7_reckon (wsV RX7 41 RX9 yX9_mostOf wsX9_mostOf) := goodIn_app (goodIn_r _ [66, 67, 68, 22] rfl (by decide +kernel)) ggX7_reckon_X9_mostOf
set_option maxRecDepth 100000 in
theorem ggX7_reckon_X6_amountOf : GoodIn wsX7_reckon wsX6_amountOf := goodIn_r _ [74, 61, 58, 59, 15, 60, 62, 63, 14, 16, 112, 113, 114] rfl (by decide +kernel)
set_option maxRecDepth 100000 in
theorem gX7_reckon_X6_amountOf : GoodIn wsX7_reckon (wsV RX7 45 RX6 yX6_amountOf wsX6_amountOf) := goodIn_app (goodIn_r _ [71, 72, 73, 56] rfl (by decide +kernel)) ggX7_reckon_X6_amountOf
set_option maxRecDepth 100000 in
theorem ggX7_reckon_X9_isAnswer : GoodIn wsX7_reckon wsX9_isAnswer := goodIn_hd (goodIn_c zc_wsX7_reckon_in [(3, 5)] rfl (by decide +kernel)) (goodIn_app (goodIn_app (goodIn_c zc_wsX7_reckon_in [(0, 23), (3, 6), (3, 7), (3, 8), (3, 9), (0, 21), (3, 10), (1, 0)] rfl (by decide +kernel)) (goodIn_sub zB_X7_reckon_X90 zgw_X90)) (goodIn_sub zB_X7_reckon_X40 zgw_X40))
set_option maxRecDepth 100000 in
theorem gX7_reckon_X9_isAnswer : GoodIn wsX7_reckon (wsV RX7 51 RX9 yX9_isAnswer wsX9_isAnswer) := goodIn_app (goodIn_r _ [75, 76, 77, 22] rfl (by decide +kernel)) ggX7_reckon_X9_isAnswer
theorem zB_X7_errorOf_X90 : ∀ w ∈ wsX90, w ∈ wsX7_errorOf := fun _ h => List.mem_cons_of_mem _ (List.mem_append_left _ (List.mem_append_left _ (List.mem_append_left _ (List.mem_append_left _ (List.mem_append_right _ h)))))
theorem zB_X7_errorOf_X40 : ∀ w ∈ wsX40, w ∈ wsX7_errorOf := fun _ h => List.mem_cons_of_mem _ (List.mem_append_left _ (List.mem_append_left _ (List.mem_append_left _ (List.mem_append_right _ h))))
theorem zB_X7_errorOf_X20 : ∀ w ∈ wsX20, w ∈ wsX7_errorOf := fun _ h => List.mem_cons_of_mem _ (List.mem_append_left _ (List.mem_append_left _ (List.mem_append_right _ h)))
set_option maxRecDepth 100000 in
theorem ggX7_errorOf_X9_formatOf : GoodIn wsX7_errorOf wsX9_formatOf := goodIn_hd (goodIn_r _ [13] rfl (by decide +kernel)) (goodIn_app (goodIn_app (goodIn_app (goodIn_r _ [14, 15, 16, 17] rfl (by decide +kernel)) (goodIn_sub zB_X7_errorOf_X90 zgw_X90)) (goodIn_sub zB_X7_errorOf_X40 zgw_X40)) (goodIn_sub zB_X7_errorOf_X20 zgw_X20))
set_option maxRecDepth 100000 in
theorem gX7_errorOf_X9_formatOf : GoodIn wsX7_errorOf (wsV RX7 37 RX9 yX9_formatOf wsX9_formatOf) := goodIn_app (goodIn_r _ [9, 10, 11, 12] rfl (by decide +kernel)) ggX7_errorOf_X9_formatOf
set_option maxRecDepth 100000 in
theorem ggX7_errorOf_X9_stepOf : GoodIn wsX7_errorOf wsX9_stepOf := goodIn_r _ [21, 22, 23, 58, 59, 60, 61, 62, 63, 64, 65, 66] rfl (by decide +kernel)
set_option maxRecDepth 100000 in
theorem gX7_errorOf_X9_stepOf : GoodIn wsX7_errorOf (wsV RX7 59 RX9 yX9_stepOf wsX9_stepOf) := goodIn_app (goodIn_r _ [18, 19, 20, 12] rfl (by decide +kernel)) ggX7_errorOf_X9_stepOf
noncomputable def zc_wsX7_errorOf : List (List Cond) := [wsX7_errorOf_r1, wsX7_errorOf_r2, wsX7_errorOf_r3, wsX90, wsX40, wsX20, wsX70, wsX60]
set_option maxRecDepth 20000 in
theorem zc_wsX7_errorOf_in : ∀ l ∈ zc_wsX7_errorOf, ∀ w ∈ l, w ∈ wsX7_errorOf := by
  intro l hl
  unfold zc_wsX7_errorOf at hl
  rcases List.mem_cons.mp hl with e | hl
  · rw [e]
    exact fun w h => List.mem_cons_of_mem _ (List.mem_append_left _ (List.mem_append_left _ (List.mem_append_left _ (List.mem_append_left _ (List.mem_append_left _ (List.mem_append_left _ h))))))
  rcases List.mem_cons.mp hl with e | hl
  · rw [e]
    exact fun w h => List.mem_cons_of_mem _ (List.mem_append_left _ (List.mem_append_left _ (List.mem_append_left _ (List.mem_append_left _ (List.mem_append_left _ (List.mem_append_right _ (List.mem_append_left _ h)))))))
  rcases List.mem_cons.mp hl with e | hl
  · rw [e]
    exact fun w h => List.mem_cons_of_mem _ (List.mem_append_left _ (List.mem_append_left _ (List.mem_append_left _ (List.mem_append_left _ (List.mem_append_left _ (List.mem_append_right _ (List.mem_append_right _ h)))))))
  rcases List.mem_cons.mp hl with e | hl
  · rw [e]
    exact fun w h => List.mem_cons_of_mem _ (List.mem_append_left _ (List.mem_append_left _ (List.mem_append_left _ (List.mem_append_left _ (List.mem_append_right _ h)))))
  rcases List.mem_cons.mp hl with e | hl
  · rw [e]
    exact fun w h => List.mem_cons_of_mem _ (List.mem_append_left _ (List.mem_append_left _ (List.mem_append_left _ (List.mem_append_right _ h))))
  rcases List.mem_cons.mp hl with e | hl
  · rw [e]
    exact fun w h => List.mem_cons_of_mem _ (List.mem_append_left _ (List.mem_append_left _ (List.mem_append_right _ h)))
  rcases List.mem_cons.mp hl with e | hl
  · rw [e]
    exact fun w h => List.mem_cons_of_mem _ (List.mem_append_left _ (List.mem_append_right _ h))
  rcases List.mem_cons.mp hl with e | hl
  · rw [e]
    exact fun w h => List.mem_cons_of_mem _ (List.mem_append_right _ h)
  cases hl
theorem zB_X7_errorOf_X70 : ∀ w ∈ wsX70, w ∈ wsX7_errorOf := fun _ h => List.mem_cons_of_mem _ (List.mem_append_left _ (List.mem_append_right _ h))
set_option maxRecDepth 100000 in
theorem ggX7_errorOf_X7_errorBehindCast : GoodIn wsX7_errorOf wsX7_errorBehindCast := goodIn_hd (goodIn_c zc_wsX7_errorOf_in [(1, 3)] rfl (by decide +kernel)) (goodIn_app (goodIn_app (goodIn_app (goodIn_app (goodIn_app (goodIn_c zc_wsX7_errorOf_in [(0, 0), (1, 4), (0, 8), (0, 9), (0, 10), (0, 11), (0, 12), (0, 13), (0, 14), (0, 15), (0, 16), (0, 17), (0, 18), (0, 19), (0, 20), (0, 21), (0, 22), (1, 5), (1, 6), (1, 7), (1, 8), (1, 9), (1, 10), (1, 11)] rfl (by decide +kernel)) (goodIn_c zc_wsX7_errorOf_in [(1, 12), (1, 13), (1, 14), (1, 15), (1, 16), (1, 17), (1, 18), (1, 19)] rfl (by decide +kernel))) (goodIn_sub zB_X7_errorOf_X90 zgw_X90)) (goodIn_sub zB_X7_errorOf_X70 zgw_X70)) (goodIn_sub zB_X7_errorOf_X40 zgw_X40)) (goodIn_sub zB_X7_errorOf_X20 zgw_X20))
set_option maxRecDepth 100000 in
theorem gX7_errorOf_X7_errorBehindCast : GoodIn wsX7_errorOf (wsV RX7 65 RX7 yX7_errorBehindCast wsX7_errorBehindCast) := goodIn_app (goodIn_r _ [24, 25, 26, 27] rfl (by decide +kernel)) ggX7_errorOf_X7_errorBehindCast
theorem zB_X7_errorOf_X60 : ∀ w ∈ wsX60, w ∈ wsX7_errorOf := fun _ h => List.mem_cons_of_mem _ (List.mem_append_right _ h)
set_option maxRecDepth 100000 in
theorem ggX7_errorOf_X6_amountOfWhat : GoodIn wsX7_errorOf wsX6_amountOfWhat := goodIn_hd (goodIn_r _ [49] rfl (by decide +kernel)) (goodIn_app (goodIn_app (goodIn_r _ [50, 51, 5, 52, 53, 54, 55, 4, 6, 56, 31, 32, 33, 34, 35, 36, 57, 38, 39, 40, 41] rfl (by decide +kernel)) (goodIn_sub zB_X7_errorOf_X60 zgw_X60)) (goodIn_sub zB_X7_errorOf_X40 zgw_X40))
set_option maxRecDepth 100000 in
theorem gX7_errorOf_X6_amountOfWhat : GoodIn wsX7_errorOf (wsV RX7 75 RX6 yX6_amountOfWhat wsX6_amountOfWhat) := goodIn_app (goodIn_r _ [45, 46, 47, 48] rfl (by decide +kernel)) ggX7_errorOf_X6_amountOfWhat
theorem zB_X7_errorBehindCast_X90 : ∀ w ∈ wsX90, w ∈ wsX7_errorBehindCast := fun _ h => List.mem_cons_of_mem _ (List.mem_append_left _ (List.mem_append_left _ (List.mem_append_left _ (List.mem_append_right _ h))))
theorem zB_X7_errorBehindCast_X40 : ∀ w ∈ wsX40, w ∈ wsX7_errorBehindCast := fun _ h => List.mem_cons_of_mem _ (List.mem_append_left _ (List.mem_append_right _ h))
theorem zB_X7_errorBehindCast_X20 : ∀ w ∈ wsX20, w ∈ wsX7_errorBehindCast := fun _ h => List.mem_cons_of_mem _ (List.mem_append_right _ h)
set_option maxRecDepth 100000 in
theorem ggX7_errorBehindCast_X9_formatOf : GoodIn wsX7_errorBehindCast wsX9_formatOf := goodIn_hd (goodIn_r _ [7] rfl (by decide +kernel)) (goodIn_app (goodIn_app (goodIn_app (goodIn_r _ [8, 9, 10, 11] rfl (by decide +kernel)) (goodIn_sub zB_X7_errorBehindCast_X90 zgw_X90)) (goodIn_sub zB_X7_errorBehindCast_X40 zgw_X40)) (goodIn_sub zB_X7_errorBehindCast_X20 zgw_X20))
set_option maxRecDepth 100000 in
theorem gX7_errorBehindCast_X9_formatOf : GoodIn wsX7_errorBehindCast (wsV RX7 37 RX9 yX9_formatOf wsX9_formatOf) := goodIn_app (goodIn_r _ [3, 4, 5, 6] rfl (by decide +kernel)) ggX7_errorBehindCast_X9_formatOf
set_option maxRecDepth 100000 in
theorem ggX7_errorBehindCast_X9_stepOf : GoodIn wsX7_errorBehindCast wsX9_stepOf := goodIn_r _ [15, 16, 17, 33, 34, 35, 36, 37, 38, 39, 40, 41] rfl (by decide +kernel)
set_option maxRecDepth 100000 in
theorem gX7_errorBehindCast_X9_stepOf : GoodIn wsX7_errorBehindCast (wsV RX7 59 RX9 yX9_stepOf wsX9_stepOf) := goodIn_app (goodIn_r _ [12, 13, 14, 6] rfl (by decide +kernel)) ggX7_errorBehindCast_X9_stepOf
set_option maxRecDepth 100000 in
theorem ggX7_errorBehindCast_X4_madeOf : GoodIn wsX7_errorBehindCast wsX4_madeOf := goodIn_r _ [22, 23, 24, 45, 46, 47, 48, 49, 50, 51, 52, 53, 54] rfl (by decide +kernel)
set_option maxRecDepth 100000 in
theorem gX7_errorBehindCast_X4_madeOf : GoodIn wsX7_errorBehindCast (wsV RX7 83 RX4 yX4_madeOf wsX4_madeOf) := goodIn_app (goodIn_r _ [18, 19, 20, 21] rfl (by decide +kernel)) ggX7_errorBehindCast_X4_madeOf
set_option maxRecDepth 100000 in
theorem ggX7_errorBehindCast_X4_amountOf : GoodIn wsX7_errorBehindCast wsX4_amountOf := goodIn_r _ [28, 23, 29, 45, 46, 47, 48, 49, 50, 51, 52, 53, 54] rfl (by decide +kernel)
set_option maxRecDepth 100000 in
theorem gX7_errorBehindCast_X4_amountOf : GoodIn wsX7_errorBehindCast (wsV RX7 87 RX4 yX4_amountOf wsX4_amountOf) := goodIn_app (goodIn_r _ [25, 26, 27, 21] rfl (by decide +kernel)) ggX7_errorBehindCast_X4_amountOf
set_option maxRecDepth 100000 in
theorem ggX7_errorBehindCast_X11_divides : GoodIn wsX7_errorBehindCast wsX11_divides := goodIn_r _ [32] rfl (by decide +kernel)
set_option maxRecDepth 100000 in
theorem gX7_errorBehindCast_X11_divides_n90 : GoodIn wsX7_errorBehindCast (wsX11_divides) := ggX7_errorBehindCast_X11_divides
theorem zB_X8_sample_X90 : ∀ w ∈ wsX90, w ∈ wsX8_sample := fun _ h => List.mem_cons_of_mem _ (List.mem_append_left _ (List.mem_append_left _ (List.mem_append_left _ (List.mem_append_right _ h))))
theorem zB_X8_sample_X40 : ∀ w ∈ wsX40, w ∈ wsX8_sample := fun _ h => List.mem_cons_of_mem _ (List.mem_append_left _ (List.mem_append_left _ (List.mem_append_right _ h)))
theorem zB_X8_sample_X20 : ∀ w ∈ wsX20, w ∈ wsX8_sample := fun _ h => List.mem_cons_of_mem _ (List.mem_append_right _ h)
set_option maxRecDepth 100000 in
theorem ggX8_sample_X9_formatOf : GoodIn wsX8_sample wsX9_formatOf := goodIn_hd (goodIn_r _ [13] rfl (by decide +kernel)) (goodIn_app (goodIn_app (goodIn_app (goodIn_r _ [14, 15, 16, 17] rfl (by decide +kernel)) (goodIn_sub zB_X8_sample_X90 zgw_X90)) (goodIn_sub zB_X8_sample_X40 zgw_X40)) (goodIn_sub zB_X8_sample_X20 zgw_X20))
set_option maxRecDepth 100000 in
theorem gX8_sample_X9_formatOf : GoodIn wsX8_sample (wsV RX8 30 RX9 yX9_formatOf wsX9_formatOf) := goodIn_app (goodIn_r _ [9, 10, 11, 12] rfl (by decide +kernel)) ggX8_sample_X9_formatOf
set_option maxRecDepth 100000 in
theorem ggX8_sample_X9_stepOf : GoodIn wsX8_sample wsX9_stepOf := goodIn_r _ [21, 22, 23, 59, 60, 61, 62, 63, 64, 65, 66, 67] rfl (by decide +kernel)
set_option maxRecDepth 100000 in
theorem gX8_sample_X9_stepOf : GoodIn wsX8_sample (wsV RX8 34 RX9 yX9_stepOf wsX9_stepOf) := goodIn_app (goodIn_r _ [18, 19, 20, 12] rfl (by decide +kernel)) ggX8_sample_X9_stepOf
set_option maxRecDepth 100000 in
theorem ggX8_sample_X4_amountOf : GoodIn wsX8_sample wsX4_amountOf := goodIn_r _ [28, 29, 30, 68, 69, 70, 71, 72, 73, 74, 75, 76, 77] rfl (by decide +kernel)
set_option maxRecDepth 100000 in
theorem gX8_sample_X4_amountOf : GoodIn wsX8_sample (wsV RX8 48 RX4 yX4_amountOf wsX4_amountOf) := goodIn_app (goodIn_r _ [24, 25, 26, 27] rfl (by decide +kernel)) ggX8_sample_X4_amountOf
set_option maxRecDepth 100000 in
theorem ggX8_sample_X11_nearest : GoodIn wsX8_sample wsX11_nearest := goodIn_r _ [33, 34, 35, 36, 37, 38] rfl (by decide +kernel)
set_option maxRecDepth 100000 in
theorem gX8_sample_X11_nearest_n52 : GoodIn wsX8_sample (wsX11_nearest) := ggX8_sample_X11_nearest
set_option maxRecDepth 100000 in
theorem ggX8_sample_X8_whatOf : GoodIn wsX8_sample wsX8_whatOf := goodIn_hd (goodIn_r _ [42] rfl (by decide +kernel)) (goodIn_app (goodIn_app (goodIn_r _ [1, 43, 44, 45, 27, 46, 29, 47, 24, 25, 26, 28, 30] rfl (by decide +kernel)) (goodIn_sub zB_X8_sample_X90 zgw_X90)) (goodIn_sub zB_X8_sample_X40 zgw_X40))
set_option maxRecDepth 100000 in
theorem gX8_sample_X8_whatOf : GoodIn wsX8_sample (va_wsS RX8 56 yX8_whatOf wsX8_whatOf) := goodIn_app (goodIn_r _ [39, 40, 41] rfl (by decide +kernel)) ggX8_sample_X8_whatOf
set_option maxRecDepth 100000 in
theorem ggX8_sample_X11_apply : GoodIn wsX8_sample wsX11_apply := goodIn_r _ [49, 50, 51, 52, 53, 54, 55, 56, 57, 58, 31, 32, 33, 34, 35, 36, 37, 38] rfl (by decide +kernel)
set_option maxRecDepth 100000 in
theorem gX8_sample_X11_apply_n60 : GoodIn wsX8_sample (wsX11_apply) := ggX8_sample_X11_apply
set_option maxRecDepth 100000 in
theorem ggX8_whatOf_X4_madeOf : GoodIn wsX8_whatOf wsX4_madeOf := goodIn_r _ [6, 7, 8, 23, 24, 25, 26, 27, 28, 29, 30, 31, 32] rfl (by decide +kernel)
set_option maxRecDepth 100000 in
theorem gX8_whatOf_X4_madeOf : GoodIn wsX8_whatOf (wsV RX8 64 RX4 yX4_madeOf wsX4_madeOf) := goodIn_app (goodIn_r _ [2, 3, 4, 5] rfl (by decide +kernel)) ggX8_whatOf_X4_madeOf
set_option maxRecDepth 100000 in
theorem ggX8_whatOf_X4_amountOf : GoodIn wsX8_whatOf wsX4_amountOf := goodIn_r _ [12, 7, 13, 23, 24, 25, 26, 27, 28, 29, 30, 31, 32] rfl (by decide +kernel)
set_option maxRecDepth 100000 in
theorem gX8_whatOf_X4_amountOf : GoodIn wsX8_whatOf (wsV RX8 48 RX4 yX4_amountOf wsX4_amountOf) := goodIn_app (goodIn_r _ [9, 10, 11, 5] rfl (by decide +kernel)) ggX8_whatOf_X4_amountOf
set_option maxRecDepth 100000 in
theorem ggX9_init_X4_init : GoodIn wsX9_init wsX4_init := goodIn_r _ [22, 23, 2, 3, 4, 24, 25, 26, 27, 28, 29, 30, 31, 55, 56, 57, 58, 59, 60, 61, 62, 63, 64] rfl (by decide +kernel)
set_option maxRecDepth 100000 in
theorem gX9_init_X4_init_n26 : GoodIn wsX9_init (wsX4_init) := ggX9_init_X4_init
set_option maxRecDepth 100000 in
theorem ggX9_init_X2_init : GoodIn wsX9_init wsX2_init := goodIn_r _ [33, 34, 2, 3, 4, 35, 36, 37, 65, 66, 67, 68, 69, 70] rfl (by decide +kernel)
set_option maxRecDepth 100000 in
theorem gX9_init_X2_init_n33 : GoodIn wsX9_init (wsX2_init) := ggX9_init_X2_init
set_option maxRecDepth 100000 in
theorem ggX9_init_X6_init : GoodIn wsX9_init wsX6_init := goodIn_r _ [39, 40, 2, 3, 41, 42, 43, 44, 45, 71, 72, 73] rfl (by decide +kernel)
set_option maxRecDepth 100000 in
theorem gX9_init_X6_init_n40 : GoodIn wsX9_init (wsX6_init) := ggX9_init_X6_init
noncomputable def zc_wsX9_settle : List (List Cond) := [wsX9_settle_r1, wsX9_settle_r2, wsX9_settle_r3, wsX9_settle_r4, wsX9_settle_r5, wsX90, wsX20, wsX40, wsX60]
set_option maxRecDepth 20000 in
theorem zc_wsX9_settle_in : ∀ l ∈ zc_wsX9_settle, ∀ w ∈ l, w ∈ wsX9_settle := by
  intro l hl
  unfold zc_wsX9_settle at hl
  rcases List.mem_cons.mp hl with e | hl
  · rw [e]
    exact fun w h => List.mem_cons_of_mem _ (List.mem_append_left _ (List.mem_append_left _ (List.mem_append_left _ (List.mem_append_left _ (List.mem_append_left _ h)))))
  rcases List.mem_cons.mp hl with e | hl
  · rw [e]
    exact fun w h => List.mem_cons_of_mem _ (List.mem_append_left _ (List.mem_append_left _ (List.mem_append_left _ (List.mem_append_left _ (List.mem_append_right _ (List.mem_append_left _ h))))))
  rcases List.mem_cons.mp hl with e | hl
  · rw [e]
    exact fun w h => List.mem_cons_of_mem _ (List.mem_append_left _ (List.mem_append_left _ (List.mem_append_left _ (List.mem_append_left _ (List.mem_append_right _ (List.mem_append_right _ (List.mem_append_left _ h)))))))
  rcases List.mem_cons.mp hl with e | hl
  · rw [e]
    exact fun w h => List.mem_cons_of_mem _ (List.mem_append_left _ (List.mem_append_left _ (List.mem_append_left _ (List.mem_append_left _ (List.mem_append_right _ (List.mem_append_right _ (List.mem_append_right _ (List.mem_append_left _ h))))))))
  rcases List.mem_cons.mp hl with e | hl
  · rw [e]
    exact fun w h => List.mem_cons_of_mem _ (List.mem_append_left _ (List.mem_append_left _ (List.mem_append_left _ (List.mem_append_left _ (List.mem_append_right _ (List.mem_append_right _ (List.mem_append_right _ (List.mem_append_right _ h))))))))
  rcases List.mem_cons.mp hl with e | hl
  · rw [e]
    exact fun w h => List.mem_cons_of_mem _ (List.mem_append_left _ (List.mem_append_left _ (List.mem_append_left _ (List.mem_append_right _ h))))
  rcases List.mem_cons.mp hl with e | hl
  · rw [e]
    exact fun w h => List.mem_cons_of_mem _ (List.mem_append_left _ (List.mem_append_left _ (List.mem_append_right _ h)))
  rcases List.mem_cons.mp hl with e | hl
  · rw [e]
    exact fun w h => List.mem_cons_of_mem _ (List.mem_append_left _ (List.mem_append_right _ h))
  rcases List.mem_cons.mp hl with e | hl
  · rw [e]
    exact fun w h => List.mem_cons_of_mem _ (List.mem_append_right _ h)
  cases hl
theorem zB_X9_settle_X20 : ∀ w ∈ wsX20, w ∈ wsX9_settle := fun _ h => List.mem_cons_of_mem _ (List.mem_append_left _ (List.mem_append_left _ (List.mem_append_right _ h)))
theorem zB_X9_settle_X40 : ∀ w ∈ wsX40, w ∈ wsX9_settle := fun _ h => List.mem_cons_of_mem _ (List.mem_append_left _ (List.mem_append_right _ h))
set_option maxRecDepth 100000 in
theorem ggX9_settle_X2_gather : GoodIn wsX9_settle wsX2_gather := goodIn_hd (goodIn_c zc_wsX9_settle_in [(0, 7)] rfl (by decide +kernel)) (goodIn_app (goodIn_app (goodIn_c zc_wsX9_settle_in [(0, 8), (0, 9), (0, 10), (0, 11), (0, 12), (0, 13), (0, 14), (0, 15), (0, 16), (0, 17), (0, 18), (0, 6), (0, 19), (0, 20), (0, 21), (0, 22), (0, 23), (1, 0)] rfl (by decide +kernel)) (goodIn_sub zB_X9_settle_X20 zgw_X20)) (goodIn_sub zB_X9_settle_X40 zgw_X40))
set_option maxRecDepth 100000 in
theorem gX9_settle_X2_gather : GoodIn wsX9_settle (wsV RX9 58 RX2 yX2_gather wsX2_gather) := goodIn_app (goodIn_r _ [4, 5, 6, 7] rfl (by decide +kernel)) ggX9_settle_X2_gather
theorem zB_X9_settle_X60 : ∀ w ∈ wsX60, w ∈ wsX9_settle := fun _ h => List.mem_cons_of_mem _ (List.mem_append_right _ h)
set_option maxRecDepth 100000 in
theorem ggX9_settle_X6_fill : GoodIn wsX9_settle wsX6_fill := goodIn_hd (goodIn_c zc_wsX9_settle_in [(1, 5)] rfl (by decide +kernel)) (goodIn_app (goodIn_app (goodIn_app (goodIn_c zc_wsX9_settle_in [(1, 6), (1, 7), (1, 8), (1, 9), (1, 10), (1, 11), (1, 12), (1, 13), (1, 4), (1, 14), (1, 15), (1, 16), (1, 17), (1, 18), (1, 19), (1, 20), (1, 21), (1, 22), (1, 23), (2, 0), (2, 1), (2, 2), (2, 3), (2, 4)] rfl (by decide +kernel)) (goodIn_app (goodIn_c zc_wsX9_settle_in [(2, 5), (2, 6), (2, 7), (2, 8), (2, 9), (2, 10), (2, 11), (2, 12), (2, 13), (2, 14), (2, 15), (2, 16), (2, 17), (2, 18), (2, 19), (2, 20), (2, 21), (2, 22), (2, 23), (3, 0), (3, 1), (3, 2), (3, 3), (3, 4)] rfl (by decide +kernel)) (goodIn_app (goodIn_c zc_wsX9_settle_in [(3, 5), (3, 6), (3, 7), (3, 8), (3, 9), (3, 10), (3, 11), (3, 12), (3, 13), (3, 14), (3, 15), (3, 16), (3, 17), (3, 18), (3, 19), (3, 20), (3, 21), (3, 22), (3, 23), (4, 0), (4, 1), (4, 2), (4, 3), (4, 4)] rfl (by decide +kernel)) (goodIn_c zc_wsX9_settle_in [(4, 5), (4, 6), (4, 7), (4, 8)] rfl (by decide +kernel))))) (goodIn_sub zB_X9_settle_X40 zgw_X40)) (goodIn_sub zB_X9_settle_X60 zgw_X60))
set_option maxRecDepth 100000 in
theorem gX9_settle_X6_fill : GoodIn wsX9_settle (wsV RX9 62 RX6 yX6_fill wsX6_fill) := goodIn_app (goodIn_r _ [26, 27, 28, 29] rfl (by decide +kernel)) ggX9_settle_X6_fill
theorem zB_X9_isAnswer_X90 : ∀ w ∈ wsX90, w ∈ wsX9_isAnswer := fun _ h => List.mem_cons_of_mem _ (List.mem_append_left _ (List.mem_append_right _ h))
theorem zB_X9_isAnswer_X40 : ∀ w ∈ wsX40, w ∈ wsX9_isAnswer := fun _ h => List.mem_cons_of_mem _ (List.mem_append_right _ h)
set_option maxRecDepth 100000 in
theorem ggX9_isAnswer_X9_hasNumber : GoodIn wsX9_isAnswer wsX9_hasNumber := goodIn_hd (goodIn_r _ [7] rfl (by decide +kernel)) (goodIn_app (goodIn_app (goodIn_r _ [1, 8] rfl (by decide +kernel)) (goodIn_sub zB_X9_isAnswer_X90 zgw_X90)) (goodIn_sub zB_X9_isAnswer_X40 zgw_X40))
set_option maxRecDepth 100000 in
theorem gX9_isAnswer_X9_hasNumber : GoodIn wsX9_isAnswer (wsV RX9 70 RX9 yX9_hasNumber wsX9_hasNumber) := goodIn_app (goodIn_r _ [3, 4, 5, 6] rfl (by decide +kernel)) ggX9_isAnswer_X9_hasNumber
theorem zB_X9_isInput_X90 : ∀ w ∈ wsX90, w ∈ wsX9_isInput := fun _ h => List.mem_cons_of_mem _ (List.mem_append_left _ (List.mem_append_right _ h))
theorem zB_X9_isInput_X40 : ∀ w ∈ wsX40, w ∈ wsX9_isInput := fun _ h => List.mem_cons_of_mem _ (List.mem_append_right _ h)
set_option maxRecDepth 100000 in
theorem ggX9_isInput_X9_hasNumber : GoodIn wsX9_isInput wsX9_hasNumber := goodIn_hd (goodIn_r _ [7] rfl (by decide +kernel)) (goodIn_app (goodIn_app (goodIn_r _ [1, 8] rfl (by decide +kernel)) (goodIn_sub zB_X9_isInput_X90 zgw_X90)) (goodIn_sub zB_X9_isInput_X40 zgw_X40))
set_option maxRecDepth 100000 in
theorem gX9_isInput_X9_hasNumber : GoodIn wsX9_isInput (wsV RX9 70 RX9 yX9_hasNumber wsX9_hasNumber) := goodIn_app (goodIn_r _ [3, 4, 5, 6] rfl (by decide +kernel)) ggX9_isInput_X9_hasNumber
theorem zB_X9_isFree_X90 : ∀ w ∈ wsX90, w ∈ wsX9_isFree := fun _ h => List.mem_cons_of_mem _ (List.mem_append_left _ (List.mem_append_left _ (List.mem_append_right _ h)))
theorem zB_X9_isFree_X40 : ∀ w ∈ wsX40, w ∈ wsX9_isFree := fun _ h => List.mem_cons_of_mem _ (List.mem_append_right _ h)
set_option maxRecDepth 100000 in
theorem ggX9_isFree_X9_hasNumber : GoodIn wsX9_isFree wsX9_hasNumber := goodIn_hd (goodIn_r _ [7] rfl (by decide +kernel)) (goodIn_app (goodIn_app (goodIn_r _ [8, 9] rfl (by decide +kernel)) (goodIn_sub zB_X9_isFree_X90 zgw_X90)) (goodIn_sub zB_X9_isFree_X40 zgw_X40))
set_option maxRecDepth 100000 in
theorem gX9_isFree_X9_hasNumber : GoodIn wsX9_isFree (wsV RX9 70 RX9 yX9_hasNumber wsX9_hasNumber) := goodIn_app (goodIn_r _ [3, 4, 5, 6] rfl (by decide +kernel)) ggX9_isFree_X9_hasNumber
set_option maxRecDepth 100000 in
theorem ggX9_isFree_X2_isFree : GoodIn wsX9_isFree wsX2_isFree := goodIn_r _ [14, 15, 16, 26, 27, 28, 29, 30, 31] rfl (by decide +kernel)
set_option maxRecDepth 100000 in
theorem gX9_isFree_X2_isFree : GoodIn wsX9_isFree (wsV RX9 83 RX2 yX2_isFree wsX2_isFree) := goodIn_app (goodIn_r _ [10, 11, 12, 13] rfl (by decide +kernel)) ggX9_isFree_X2_isFree
set_option maxRecDepth 100000 in
theorem ggX9_castsOf_X4_madeOf : GoodIn wsX9_castsOf wsX4_madeOf := goodIn_r _ [7, 8, 9, 26, 27, 28, 29, 30, 31, 32, 33, 34, 35] rfl (by decide +kernel)
set_option maxRecDepth 100000 in
theorem gX9_castsOf_X4_madeOf : GoodIn wsX9_castsOf (wsV RX9 86 RX4 yX4_madeOf wsX4_madeOf) := goodIn_app (goodIn_r _ [3, 4, 5, 6] rfl (by decide +kernel)) ggX9_castsOf_X4_madeOf
theorem zB_X9_castsOf_X90 : ∀ w ∈ wsX90, w ∈ wsX9_castsOf := fun _ h => List.mem_cons_of_mem _ (List.mem_append_left _ (List.mem_append_left _ (List.mem_append_right _ h)))
theorem zB_X9_castsOf_X40 : ∀ w ∈ wsX40, w ∈ wsX9_castsOf := fun _ h => List.mem_cons_of_mem _ (List.mem_append_left _ (List.mem_append_right _ h))
theorem zB_X9_castsOf_X20 : ∀ w ∈ wsX20, w ∈ wsX9_castsOf := fun _ h => List.mem_cons_of_mem _ (List.mem_append_right _ h)
set_option maxRecDepth 100000 in
theorem ggX9_castsOf_X9_formatOf : GoodIn wsX9_castsOf wsX9_formatOf := goodIn_hd (goodIn_r _ [14] rfl (by decide +kernel)) (goodIn_app (goodIn_app (goodIn_app (goodIn_r _ [1, 2, 15, 16] rfl (by decide +kernel)) (goodIn_sub zB_X9_castsOf_X90 zgw_X90)) (goodIn_sub zB_X9_castsOf_X40 zgw_X40)) (goodIn_sub zB_X9_castsOf_X20 zgw_X20))
set_option maxRecDepth 100000 in
theorem gX9_castsOf_X9_formatOf : GoodIn wsX9_castsOf (wsV RX9 90 RX9 yX9_formatOf wsX9_formatOf) := goodIn_app (goodIn_r _ [10, 11, 12, 13] rfl (by decide +kernel)) ggX9_castsOf_X9_formatOf
theorem zB_X9_priceOf_X90 : ∀ w ∈ wsX90, w ∈ wsX9_priceOf := fun _ h => List.mem_cons_of_mem _ (List.mem_append_left _ (List.mem_append_left _ (List.mem_append_right _ h)))
theorem zB_X9_priceOf_X40 : ∀ w ∈ wsX40, w ∈ wsX9_priceOf := fun _ h => List.mem_cons_of_mem _ (List.mem_append_left _ (List.mem_append_right _ h))
theorem zB_X9_priceOf_X20 : ∀ w ∈ wsX20, w ∈ wsX9_priceOf := fun _ h => List.mem_cons_of_mem _ (List.mem_append_right _ h)
set_option maxRecDepth 100000 in
theorem ggX9_priceOf_X9_castsOf : GoodIn wsX9_priceOf wsX9_castsOf := goodIn_hd (goodIn_r _ [9] rfl (by decide +kernel)) (goodIn_app (goodIn_app (goodIn_app (goodIn_r _ [2, 3, 10, 11, 12, 13, 14, 15, 16, 17, 18, 19, 8, 20, 21, 22] rfl (by decide +kernel)) (goodIn_sub zB_X9_priceOf_X90 zgw_X90)) (goodIn_sub zB_X9_priceOf_X40 zgw_X40)) (goodIn_sub zB_X9_priceOf_X20 zgw_X20))
set_option maxRecDepth 100000 in
theorem gX9_priceOf_X9_castsOf : GoodIn wsX9_priceOf (wsV RX9 94 RX9 yX9_castsOf wsX9_castsOf) := goodIn_app (goodIn_r _ [5, 6, 7, 8] rfl (by decide +kernel)) ggX9_priceOf_X9_castsOf
set_option maxRecDepth 100000 in
theorem ggX9_priceOf_X9_formatOf : GoodIn wsX9_priceOf wsX9_formatOf := goodIn_hd (goodIn_r _ [20] rfl (by decide +kernel)) (goodIn_app (goodIn_app (goodIn_app (goodIn_r _ [2, 3, 21, 22] rfl (by decide +kernel)) (goodIn_sub zB_X9_priceOf_X90 zgw_X90)) (goodIn_sub zB_X9_priceOf_X40 zgw_X40)) (goodIn_sub zB_X9_priceOf_X20 zgw_X20))
set_option maxRecDepth 100000 in
theorem gX9_priceOf_X9_formatOf : GoodIn wsX9_priceOf (wsV RX9 90 RX9 yX9_formatOf wsX9_formatOf) := goodIn_app (goodIn_r _ [17, 18, 19, 8] rfl (by decide +kernel)) ggX9_priceOf_X9_formatOf
set_option maxRecDepth 100000 in
theorem ggX9_priceOf_X9_hasFormat : GoodIn wsX9_priceOf wsX9_hasFormat := goodIn_r _ [26, 27, 28, 29, 30, 31, 32, 33, 34, 35, 36] rfl (by decide +kernel)
set_option maxRecDepth 100000 in
theorem gX9_priceOf_X9_hasFormat : GoodIn wsX9_priceOf (wsV RX9 98 RX9 yX9_hasFormat wsX9_hasFormat) := goodIn_app (goodIn_r _ [23, 24, 25, 8] rfl (by decide +kernel)) ggX9_priceOf_X9_hasFormat
set_option maxRecDepth 100000 in
theorem ggX10_init_J0_length_8abf5 : GoodIn wsX10_init wsJ0_length_8abf5 := goodIn_r _ [12, 13, 14, 15, 16, 11, 17, 18, 19] rfl (by decide +kernel)
set_option maxRecDepth 100000 in
theorem gX10_init_J0_length_8abf5 : GoodIn wsX10_init (wsV RX10 21 RJ0 yJ0_length_8abf5 wsJ0_length_8abf5) := goodIn_app (goodIn_r _ [8, 9, 10, 11] rfl (by decide +kernel)) ggX10_init_J0_length_8abf5
set_option maxRecDepth 100000 in
theorem ggX10_init_J0_charAt_5068e : GoodIn wsX10_init wsJ0_charAt_5068e := goodIn_r _ [23, 13, 24, 25, 26, 11, 27, 18, 19, 28, 29, 30, 31, 32, 33, 34, 35, 36, 37, 38, 39, 40, 41, 42, 43, 44, 45, 46, 47, 48, 49, 50, 51, 52, 53, 54, 55, 56] rfl (by decide +kernel)
set_option maxRecDepth 100000 in
theorem gX10_init_J0_charAt_5068e : GoodIn wsX10_init (wsV RX10 27 RJ0 yJ0_charAt_5068e wsJ0_charAt_5068e) := goodIn_app (goodIn_r _ [20, 21, 22, 11] rfl (by decide +kernel)) ggX10_init_J0_charAt_5068e
set_option maxRecDepth 100000 in
theorem ggX10_open_X10_advance : GoodIn wsX10_open wsX10_advance := goodIn_r _ [16, 10, 11, 9, 1, 17, 18, 19, 20, 21, 15, 22, 23, 24, 25, 26, 27, 28, 29, 30, 31, 32, 33, 34, 35, 36, 37, 38, 39] rfl (by decide +kernel)
set_option maxRecDepth 100000 in
theorem gX10_open_X10_advance : GoodIn wsX10_open (wsV RX10 49 RX10 yX10_advance wsX10_advance) := goodIn_app (goodIn_r _ [12, 13, 14, 15] rfl (by decide +kernel)) ggX10_open_X10_advance
set_option maxRecDepth 100000 in
theorem ggX10_advance_X10_kindOf : GoodIn wsX10_advance wsX10_kindOf := goodIn_r _ [11] rfl (by decide +kernel)
set_option maxRecDepth 100000 in
theorem gX10_advance_X10_kindOf : GoodIn wsX10_advance (va_wsS RX10 52 yX10_kindOf wsX10_kindOf) := goodIn_app (goodIn_r _ [8, 9, 10] rfl (by decide +kernel)) ggX10_advance_X10_kindOf
set_option maxRecDepth 100000 in
theorem ggX10_advance_X10_addByte : GoodIn wsX10_advance wsX10_addByte := goodIn_r _ [15, 2, 6, 21, 22, 23, 24, 25, 26, 27, 28] rfl (by decide +kernel)
set_option maxRecDepth 100000 in
theorem gX10_advance_X10_addByte : GoodIn wsX10_advance (wsV RX10 62 RX10 yX10_addByte wsX10_addByte) := goodIn_app (goodIn_r _ [12, 13, 14, 10] rfl (by decide +kernel)) ggX10_advance_X10_addByte
set_option maxRecDepth 100000 in
theorem ggX10_advance_X10_findOwn : GoodIn wsX10_advance wsX10_findOwn := goodIn_r _ [19, 20, 21, 22, 23, 24, 25, 26, 27, 28] rfl (by decide +kernel)
set_option maxRecDepth 100000 in
theorem gX10_advance_X10_findOwn : GoodIn wsX10_advance (wsV RX10 66 RX10 yX10_findOwn wsX10_findOwn) := goodIn_app (goodIn_r _ [16, 17, 18, 10] rfl (by decide +kernel)) ggX10_advance_X10_findOwn
noncomputable def zc_wsX11_init : List (List Cond) := [wsX11_init_r1, wsX11_init_r2, wsX11_init_r3, wsX11_init_r4, wsX11_init_r5, wsX11_init_r6, wsX11_init_r7, wsX11_init_r8, wsX11_init_r9, wsX110, wsX50, wsX90, wsX70, wsX60, wsX10, wsX30, wsX00, wsX80, wsX100, wsX40, wsX20]
set_option maxRecDepth 20000 in
theorem zc_wsX11_init_in : ∀ l ∈ zc_wsX11_init, ∀ w ∈ l, w ∈ wsX11_init := by
  intro l hl
  unfold zc_wsX11_init at hl
  rcases List.mem_cons.mp hl with e | hl
  · rw [e]
    exact fun w h => List.mem_cons_of_mem _ (List.mem_append_left _ (List.mem_append_left _ (List.mem_append_left _ (List.mem_append_left _ (List.mem_append_left _ (List.mem_append_left _ (List.mem_append_left _ (List.mem_append_left _ (List.mem_append_left _ (List.mem_append_left _ (List.mem_append_left _ (List.mem_append_left _ (List.mem_append_left _ h)))))))))))))
  rcases List.mem_cons.mp hl with e | hl
  · rw [e]
    exact fun w h => List.mem_cons_of_mem _ (List.mem_append_left _ (List.mem_append_left _ (List.mem_append_left _ (List.mem_append_left _ (List.mem_append_left _ (List.mem_append_left _ (List.mem_append_left _ (List.mem_append_left _ (List.mem_append_left _ (List.mem_append_left _ (List.mem_append_left _ (List.mem_append_left _ (List.mem_append_right _ (List.mem_append_left _ h))))))))))))))
  rcases List.mem_cons.mp hl with e | hl
  · rw [e]
    exact fun w h => List.mem_cons_of_mem _ (List.mem_append_left _ (List.mem_append_left _ (List.mem_append_left _ (List.mem_append_left _ (List.mem_append_left _ (List.mem_append_left _ (List.mem_append_left _ (List.mem_append_left _ (List.mem_append_left _ (List.mem_append_left _ (List.mem_append_left _ (List.mem_append_left _ (List.mem_append_right _ (List.mem_append_right _ (List.mem_append_left _ h)))))))))))))))
  rcases List.mem_cons.mp hl with e | hl
  · rw [e]
    exact fun w h => List.mem_cons_of_mem _ (List.mem_append_left _ (List.mem_append_left _ (List.mem_append_left _ (List.mem_append_left _ (List.mem_append_left _ (List.mem_append_left _ (List.mem_append_left _ (List.mem_append_left _ (List.mem_append_left _ (List.mem_append_left _ (List.mem_append_left _ (List.mem_append_left _ (List.mem_append_right _ (List.mem_append_right _ (List.mem_append_right _ (List.mem_append_left _ h))))))))))))))))
  rcases List.mem_cons.mp hl with e | hl
  · rw [e]
    exact fun w h => List.mem_cons_of_mem _ (List.mem_append_left _ (List.mem_append_left _ (List.mem_append_left _ (List.mem_append_left _ (List.mem_append_left _ (List.mem_append_left _ (List.mem_append_left _ (List.mem_append_left _ (List.mem_append_left _ (List.mem_append_left _ (List.mem_append_left _ (List.mem_append_left _ (List.mem_append_right _ (List.mem_append_right _ (List.mem_append_right _ (List.mem_append_right _ (List.mem_append_left _ h)))))))))))))))))
  rcases List.mem_cons.mp hl with e | hl
  · rw [e]
    exact fun w h => List.mem_cons_of_mem _ (List.mem_append_left _ (List.mem_append_left _ (List.mem_append_left _ (List.mem_append_left _ (List.mem_append_left _ (List.mem_append_left _ (List.mem_append_left _ (List.mem_append_left _ (List.mem_append_left _ (List.mem_append_left _ (List.mem_append_left _ (List.mem_append_left _ (List.mem_append_right _ (List.mem_append_right _ (List.mem_append_right _ (List.mem_append_right _ (List.mem_append_right _ (List.mem_append_left _ h))))))))))))))))))
  rcases List.mem_cons.mp hl with e | hl
  · rw [e]
    exact fun w h => List.mem_cons_of_mem _ (List.mem_append_left _ (List.mem_append_left _ (List.mem_append_left _ (List.mem_append_left _ (List.mem_append_left _ (List.mem_append_left _ (List.mem_append_left _ (List.mem_append_left _ (List.mem_append_left _ (List.mem_append_left _ (List.mem_append_left _ (List.mem_append_left _ (List.mem_append_right _ (List.mem_append_right _ (List.mem_append_right _ (List.mem_append_right _ (List.mem_append_right _ (List.mem_append_right _ (List.mem_append_left _ h)))))))))))))))))))
  rcases List.mem_cons.mp hl with e | hl
  · rw [e]
    exact fun w h => List.mem_cons_of_mem _ (List.mem_append_left _ (List.mem_append_left _ (List.mem_append_left _ (List.mem_append_left _ (List.mem_append_left _ (List.mem_append_left _ (List.mem_append_left _ (List.mem_append_left _ (List.mem_append_left _ (List.mem_append_left _ (List.mem_append_left _ (List.mem_append_left _ (List.mem_append_right _ (List.mem_append_right _ (List.mem_append_right _ (List.mem_append_right _ (List.mem_append_right _ (List.mem_append_right _ (List.mem_append_right _ (List.mem_append_left _ h))))))))))))))))))))
  rcases List.mem_cons.mp hl with e | hl
  · rw [e]
    exact fun w h => List.mem_cons_of_mem _ (List.mem_append_left _ (List.mem_append_left _ (List.mem_append_left _ (List.mem_append_left _ (List.mem_append_left _ (List.mem_append_left _ (List.mem_append_left _ (List.mem_append_left _ (List.mem_append_left _ (List.mem_append_left _ (List.mem_append_left _ (List.mem_append_left _ (List.mem_append_right _ (List.mem_append_right _ (List.mem_append_right _ (List.mem_append_right _ (List.mem_append_right _ (List.mem_append_right _ (List.mem_append_right _ (List.mem_append_right _ h))))))))))))))))))))
  rcases List.mem_cons.mp hl with e | hl
  · rw [e]
    exact fun w h => List.mem_cons_of_mem _ (List.mem_append_left _ (List.mem_append_left _ (List.mem_append_left _ (List.mem_append_left _ (List.mem_append_left _ (List.mem_append_left _ (List.mem_append_left _ (List.mem_append_left _ (List.mem_append_left _ (List.mem_append_left _ (List.mem_append_left _ (List.mem_append_right _ h))))))))))))
  rcases List.mem_cons.mp hl with e | hl
  · rw [e]
    exact fun w h => List.mem_cons_of_mem _ (List.mem_append_left _ (List.mem_append_left _ (List.mem_append_left _ (List.mem_append_left _ (List.mem_append_left _ (List.mem_append_left _ (List.mem_append_left _ (List.mem_append_left _ (List.mem_append_left _ (List.mem_append_left _ (List.mem_append_right _ h)))))))))))
  rcases List.mem_cons.mp hl with e | hl
  · rw [e]
    exact fun w h => List.mem_cons_of_mem _ (List.mem_append_left _ (List.mem_append_left _ (List.mem_append_left _ (List.mem_append_left _ (List.mem_append_left _ (List.mem_append_left _ (List.mem_append_left _ (List.mem_append_left _ (List.mem_append_left _ (List.mem_append_right _ h))))))))))
  rcases List.mem_cons.mp hl with e | hl
  · rw [e]
    exact fun w h => List.mem_cons_of_mem _ (List.mem_append_left _ (List.mem_append_left _ (List.mem_append_left _ (List.mem_append_left _ (List.mem_append_left _ (List.mem_append_left _ (List.mem_append_left _ (List.mem_append_left _ (List.mem_append_right _ h)))))))))
  rcases List.mem_cons.mp hl with e | hl
  · rw [e]
    exact fun w h => List.mem_cons_of_mem _ (List.mem_append_left _ (List.mem_append_left _ (List.mem_append_left _ (List.mem_append_left _ (List.mem_append_left _ (List.mem_append_left _ (List.mem_append_left _ (List.mem_append_right _ h))))))))
  rcases List.mem_cons.mp hl with e | hl
  · rw [e]
    exact fun w h => List.mem_cons_of_mem _ (List.mem_append_left _ (List.mem_append_left _ (List.mem_append_left _ (List.mem_append_left _ (List.mem_append_left _ (List.mem_append_left _ (List.mem_append_right _ h)))))))
  rcases List.mem_cons.mp hl with e | hl
  · rw [e]
    exact fun w h => List.mem_cons_of_mem _ (List.mem_append_left _ (List.mem_append_left _ (List.mem_append_left _ (List.mem_append_left _ (List.mem_append_left _ (List.mem_append_right _ h))))))
  rcases List.mem_cons.mp hl with e | hl
  · rw [e]
    exact fun w h => List.mem_cons_of_mem _ (List.mem_append_left _ (List.mem_append_left _ (List.mem_append_left _ (List.mem_append_left _ (List.mem_append_right _ h)))))
  rcases List.mem_cons.mp hl with e | hl
  · rw [e]
    exact fun w h => List.mem_cons_of_mem _ (List.mem_append_left _ (List.mem_append_left _ (List.mem_append_left _ (List.mem_append_right _ h))))
  rcases List.mem_cons.mp hl with e | hl
  · rw [e]
    exact fun w h => List.mem_cons_of_mem _ (List.mem_append_left _ (List.mem_append_left _ (List.mem_append_right _ h)))
  rcases List.mem_cons.mp hl with e | hl
  · rw [e]
    exact fun w h => List.mem_cons_of_mem _ (List.mem_append_left _ (List.mem_append_right _ h))
  rcases List.mem_cons.mp hl with e | hl
  · rw [e]
    exact fun w h => List.mem_cons_of_mem _ (List.mem_append_right _ h)
  cases hl
theorem zB_X11_init_X100 : ∀ w ∈ wsX100, w ∈ wsX11_init := fun _ h => List.mem_cons_of_mem _ (List.mem_append_left _ (List.mem_append_left _ (List.mem_append_right _ h)))
theorem zB_X11_init_X50 : ∀ w ∈ wsX50, w ∈ wsX11_init := fun _ h => List.mem_cons_of_mem _ (List.mem_append_left _ (List.mem_append_left _ (List.mem_append_left _ (List.mem_append_left _ (List.mem_append_left _ (List.mem_append_left _ (List.mem_append_left _ (List.mem_append_left _ (List.mem_append_left _ (List.mem_append_left _ (List.mem_append_right _ h)))))))))))
set_option maxRecDepth 100000 in
theorem ggX11_init_X5_init : GoodIn wsX11_init wsX5_init := goodIn_hd (goodIn_c zc_wsX11_init_in [(1, 21)] rfl (by decide +kernel)) (goodIn_app (goodIn_app (goodIn_app (goodIn_c zc_wsX11_init_in [(1, 22), (0, 1), (0, 2), (1, 23), (2, 0), (2, 1), (2, 2), (2, 3), (2, 4), (2, 5), (2, 6), (2, 7), (0, 5), (2, 8), (0, 3), (2, 9), (2, 10), (2, 11), (2, 12), (2, 13), (2, 14), (2, 15), (2, 16), (2, 17)] rfl (by decide +kernel)) (goodIn_app (goodIn_c zc_wsX11_init_in [(2, 18), (2, 19), (2, 20), (2, 21), (2, 22), (2, 23), (3, 0), (3, 1), (3, 2), (3, 3), (3, 4), (3, 5), (3, 6), (3, 7), (3, 8), (3, 9), (3, 10), (3, 11), (3, 12), (3, 13), (3, 14), (3, 15), (3, 16), (3, 17)] rfl (by decide +kernel)) (goodIn_c zc_wsX11_init_in [(3, 18), (3, 19), (3, 20), (3, 21), (3, 22), (3, 23), (4, 0), (4, 1), (4, 2), (4, 3), (4, 4), (4, 5), (4, 6), (4, 7), (4, 8), (4, 9), (4, 10)] rfl (by decide +kernel)))) (goodIn_sub zB_X11_init_X100 zgw_X100)) (goodIn_sub zB_X11_init_X50 zgw_X50))
set_option maxRecDepth 100000 in
theorem gX11_init_X5_init_n19 : GoodIn wsX11_init (wsX5_init) := ggX11_init_X5_init
theorem zB_X11_init_X90 : ∀ w ∈ wsX90, w ∈ wsX11_init := fun _ h => List.mem_cons_of_mem _ (List.mem_append_left _ (List.mem_append_left _ (List.mem_append_left _ (List.mem_append_left _ (List.mem_append_left _ (List.mem_append_left _ (List.mem_append_left _ (List.mem_append_left _ (List.mem_append_left _ (List.mem_append_right _ h))))))))))
theorem zB_X11_init_X40 : ∀ w ∈ wsX40, w ∈ wsX11_init := fun _ h => List.mem_cons_of_mem _ (List.mem_append_left _ (List.mem_append_right _ h))
theorem zB_X11_init_X20 : ∀ w ∈ wsX20, w ∈ wsX11_init := fun _ h => List.mem_cons_of_mem _ (List.mem_append_right _ h)
theorem zB_X11_init_X60 : ∀ w ∈ wsX60, w ∈ wsX11_init := fun _ h => List.mem_cons_of_mem _ (List.mem_append_left _ (List.mem_append_left _ (List.mem_append_left _ (List.mem_append_left _ (List.mem_append_left _ (List.mem_append_left _ (List.mem_append_left _ (List.mem_append_right _ h))))))))
set_option maxRecDepth 100000 in
theorem ggX11_init_X9_init : GoodIn wsX11_init wsX9_init := goodIn_hd (goodIn_c zc_wsX11_init_in [(4, 12)] rfl (by decide +kernel)) (goodIn_app (goodIn_app (goodIn_app (goodIn_app (goodIn_app (goodIn_c zc_wsX11_init_in [(4, 13), (0, 1), (0, 2), (0, 5), (4, 14), (4, 15), (4, 16), (4, 17), (4, 18), (4, 19), (4, 20), (4, 21), (4, 22), (4, 23), (5, 0), (5, 1), (5, 2), (1, 0), (1, 1), (5, 3), (5, 4), (5, 5), (5, 6), (5, 7)] rfl (by decide +kernel)) (goodIn_c zc_wsX11_init_in [(5, 8), (5, 9), (5, 10), (5, 11), (5, 12), (5, 13), (5, 14), (5, 15), (5, 16), (5, 17), (5, 18), (5, 19), (5, 20), (5, 21), (5, 22), (5, 23), (6, 0), (6, 1), (6, 2), (6, 3), (6, 4)] rfl (by decide +kernel))) (goodIn_sub zB_X11_init_X90 zgw_X90)) (goodIn_sub zB_X11_init_X40 zgw_X40)) (goodIn_sub zB_X11_init_X20 zgw_X20)) (goodIn_sub zB_X11_init_X60 zgw_X60))
set_option maxRecDepth 100000 in
theorem gX11_init_X9_init_n26 : GoodIn wsX11_init (wsX9_init) := ggX11_init_X9_init
set_option maxRecDepth 100000 in
theorem ggX11_init_X7_init : GoodIn wsX11_init wsX7_init := goodIn_r _ [151, 152, 2, 3, 145, 153, 224, 225, 226] rfl (by decide +kernel)
set_option maxRecDepth 100000 in
theorem gX11_init_X7_init_n42 : GoodIn wsX11_init (wsX7_init) := ggX11_init_X7_init
set_option maxRecDepth 100000 in
theorem ggX11_init_X6_init : GoodIn wsX11_init wsX6_init := goodIn_r _ [143, 144, 2, 3, 145, 146, 147, 148, 149, 227, 228, 229] rfl (by decide +kernel)
set_option maxRecDepth 100000 in
theorem gX11_init_X6_init_n52 : GoodIn wsX11_init (wsX6_init) := ggX11_init_X6_init
theorem zB_X11_init_X70 : ∀ w ∈ wsX70, w ∈ wsX11_init := fun _ h => List.mem_cons_of_mem _ (List.mem_append_left _ (List.mem_append_left _ (List.mem_append_left _ (List.mem_append_left _ (List.mem_append_left _ (List.mem_append_left _ (List.mem_append_left _ (List.mem_append_left _ (List.mem_append_right _ h)))))))))
theorem zB_X11_init_X10 : ∀ w ∈ wsX10, w ∈ wsX11_init := fun _ h => List.mem_cons_of_mem _ (List.mem_append_left _ (List.mem_append_left _ (List.mem_append_left _ (List.mem_append_left _ (List.mem_append_left _ (List.mem_append_left _ (List.mem_append_right _ h)))))))
set_option maxRecDepth 100000 in
theorem ggX11_init_X1_init : GoodIn wsX11_init wsX1_init := goodIn_hd (goodIn_c zc_wsX11_init_in [(6, 10)] rfl (by decide +kernel)) (goodIn_app (goodIn_app (goodIn_c zc_wsX11_init_in [(6, 11), (0, 1), (0, 2), (6, 12), (0, 19), (0, 20), (6, 13), (0, 5), (6, 14), (6, 15), (6, 16), (6, 17), (6, 18), (6, 19), (6, 20), (6, 21), (6, 5), (6, 6), (6, 7), (6, 0), (6, 8)] rfl (by decide +kernel)) (goodIn_sub zB_X11_init_X70 zgw_X70)) (goodIn_sub zB_X11_init_X10 zgw_X10))
