set_option maxRecDepth 100000 in
theorem gX11_init_X1_init_n59 : GoodIn wsX11_init (wsX1_init) := ggX11_init_X1_init
theorem zB_X11_init_X30 : ∀ w ∈ wsX30, w ∈ wsX11_init := fun _ h => List.mem_cons_of_mem _ (List.mem_append_left _ (List.mem_append_left _ (List.mem_append_left _ (List.mem_append_left _ (List.mem_append_left _ (List.mem_append_right _ h))))))
set_option maxRecDepth 100000 in
theorem ggX11_init_X3_init : GoodIn wsX11_init wsX3_init := goodIn_hd (goodIn_c zc_wsX11_init_in [(6, 23)] rfl (by decide +kernel)) (goodIn_app (goodIn_app (goodIn_c zc_wsX11_init_in [(7, 0), (0, 1), (0, 2), (7, 1), (0, 19), (0, 20), (7, 2), (0, 5), (7, 3), (6, 3), (7, 4), (7, 5), (7, 6), (7, 7), (7, 8), (7, 9), (7, 10), (6, 5), (6, 6), (6, 7), (6, 0), (6, 8)] rfl (by decide +kernel)) (goodIn_sub zB_X11_init_X70 zgw_X70)) (goodIn_sub zB_X11_init_X30 zgw_X30))
set_option maxRecDepth 100000 in
theorem gX11_init_X3_init_n66 : GoodIn wsX11_init (wsX3_init) := ggX11_init_X3_init
set_option maxRecDepth 100000 in
theorem ggX11_init_X0_init : GoodIn wsX11_init wsX0_init := goodIn_c zc_wsX11_init_in [(7, 12), (7, 13), (0, 1), (0, 2), (7, 14), (1, 0), (1, 1), (7, 15), (7, 16), (0, 19), (0, 20), (7, 17), (0, 5), (7, 18), (7, 19), (7, 20), (5, 21), (5, 22), (5, 23), (6, 0), (6, 1), (6, 2), (6, 3), (6, 4), (6, 5), (6, 6), (6, 7), (6, 8), (13, 0), (13, 1), (13, 2), (16, 0), (16, 1), (16, 2), (16, 3), (16, 4), (12, 0), (12, 1), (12, 2)] rfl (by decide +kernel)
set_option maxRecDepth 100000 in
theorem gX11_init_X0_init_n73 : GoodIn wsX11_init (wsX0_init) := ggX11_init_X0_init
set_option maxRecDepth 100000 in
theorem ggX11_init_X8_init : GoodIn wsX11_init wsX8_init := goodIn_r _ [191, 192, 2, 3, 145, 193, 194, 265, 266] rfl (by decide +kernel)
set_option maxRecDepth 100000 in
theorem gX11_init_X8_init_n80 : GoodIn wsX11_init (wsX8_init) := ggX11_init_X8_init
theorem zB_X11_feed_X110 : ∀ w ∈ wsX110, w ∈ wsX11_feed := fun _ h => List.mem_cons_of_mem _ (List.mem_append_right _ h)
theorem zgw_X110 : wsX110.all goodWord = true := by decide +kernel
set_option maxRecDepth 100000 in
theorem ggX11_feed_X11_refuse : GoodIn wsX11_feed wsX11_refuse := goodIn_hd (goodIn_r _ [6] rfl (by decide +kernel)) (goodIn_app (goodIn_r _ [7] rfl (by decide +kernel)) (goodIn_sub zB_X11_feed_X110 zgw_X110))
set_option maxRecDepth 100000 in
theorem gX11_feed_X11_refuse : GoodIn wsX11_feed (wsV RX11 92 RX11 yX11_refuse wsX11_refuse) := goodIn_app (goodIn_r _ [2, 3, 4, 5] rfl (by decide +kernel)) ggX11_feed_X11_refuse
set_option maxRecDepth 100000 in
theorem ggX11_feed_X11_putBytes : GoodIn wsX11_feed wsX11_putBytes := goodIn_hd (goodIn_r _ [11] rfl (by decide +kernel)) (goodIn_app (goodIn_r _ [1, 12] rfl (by decide +kernel)) (goodIn_sub zB_X11_feed_X110 zgw_X110))
set_option maxRecDepth 100000 in
theorem gX11_feed_X11_putBytes : GoodIn wsX11_feed (wsV RX11 96 RX11 yX11_putBytes wsX11_putBytes) := goodIn_app (goodIn_r _ [8, 9, 10, 5] rfl (by decide +kernel)) ggX11_feed_X11_putBytes
theorem zB_X11_end_X110 : ∀ w ∈ wsX110, w ∈ wsX11_end := fun _ h => List.mem_cons_of_mem _ (List.mem_append_right _ h)
set_option maxRecDepth 100000 in
theorem ggX11_end_X11_refuse : GoodIn wsX11_end wsX11_refuse := goodIn_hd (goodIn_r _ [6] rfl (by decide +kernel)) (goodIn_app (goodIn_r _ [7] rfl (by decide +kernel)) (goodIn_sub zB_X11_end_X110 zgw_X110))
set_option maxRecDepth 100000 in
theorem gX11_end_X11_refuse : GoodIn wsX11_end (wsV RX11 92 RX11 yX11_refuse wsX11_refuse) := goodIn_app (goodIn_r _ [2, 3, 4, 5] rfl (by decide +kernel)) ggX11_end_X11_refuse
noncomputable def zc_wsX11_task : List (List Cond) := [wsX11_task_r1, wsX11_task_r2, wsX11_task_r3, wsX11_task_r4, wsX11_task_r5, wsX11_task_r6, wsX11_task_r7, wsX11_task_r8, wsX11_task_r9, wsX11_task_r10, wsX11_task_r11, wsX11_task_r12, wsX11_task_r13, wsX11_task_r14, wsX11_task_r15, wsX110, wsX90, wsX40, wsX50, wsX100, wsX20, wsX60, wsX10, wsX30, wsX00]
set_option maxRecDepth 20000 in
theorem zc_wsX11_task_in : ∀ l ∈ zc_wsX11_task, ∀ w ∈ l, w ∈ wsX11_task := by
  intro l hl
  unfold zc_wsX11_task at hl
  rcases List.mem_cons.mp hl with e | hl
  · rw [e]
    exact fun w h => List.mem_cons_of_mem _ (List.mem_append_left _ (List.mem_append_left _ (List.mem_append_left _ (List.mem_append_left _ (List.mem_append_left _ (List.mem_append_left _ (List.mem_append_left _ (List.mem_append_left _ (List.mem_append_left _ (List.mem_append_left _ (List.mem_append_left _ h)))))))))))
  rcases List.mem_cons.mp hl with e | hl
  · rw [e]
    exact fun w h => List.mem_cons_of_mem _ (List.mem_append_left _ (List.mem_append_left _ (List.mem_append_left _ (List.mem_append_left _ (List.mem_append_left _ (List.mem_append_left _ (List.mem_append_left _ (List.mem_append_left _ (List.mem_append_left _ (List.mem_append_left _ (List.mem_append_right _ (List.mem_append_left _ h))))))))))))
  rcases List.mem_cons.mp hl with e | hl
  · rw [e]
    exact fun w h => List.mem_cons_of_mem _ (List.mem_append_left _ (List.mem_append_left _ (List.mem_append_left _ (List.mem_append_left _ (List.mem_append_left _ (List.mem_append_left _ (List.mem_append_left _ (List.mem_append_left _ (List.mem_append_left _ (List.mem_append_left _ (List.mem_append_right _ (List.mem_append_right _ (List.mem_append_left _ h)))))))))))))
  rcases List.mem_cons.mp hl with e | hl
  · rw [e]
    exact fun w h => List.mem_cons_of_mem _ (List.mem_append_left _ (List.mem_append_left _ (List.mem_append_left _ (List.mem_append_left _ (List.mem_append_left _ (List.mem_append_left _ (List.mem_append_left _ (List.mem_append_left _ (List.mem_append_left _ (List.mem_append_left _ (List.mem_append_right _ (List.mem_append_right _ (List.mem_append_right _ (List.mem_append_left _ h))))))))))))))
  rcases List.mem_cons.mp hl with e | hl
  · rw [e]
    exact fun w h => List.mem_cons_of_mem _ (List.mem_append_left _ (List.mem_append_left _ (List.mem_append_left _ (List.mem_append_left _ (List.mem_append_left _ (List.mem_append_left _ (List.mem_append_left _ (List.mem_append_left _ (List.mem_append_left _ (List.mem_append_left _ (List.mem_append_right _ (List.mem_append_right _ (List.mem_append_right _ (List.mem_append_right _ (List.mem_append_left _ h)))))))))))))))
  rcases List.mem_cons.mp hl with e | hl
  · rw [e]
    exact fun w h => List.mem_cons_of_mem _ (List.mem_append_left _ (List.mem_append_left _ (List.mem_append_left _ (List.mem_append_left _ (List.mem_append_left _ (List.mem_append_left _ (List.mem_append_left _ (List.mem_append_left _ (List.mem_append_left _ (List.mem_append_left _ (List.mem_append_right _ (List.mem_append_right _ (List.mem_append_right _ (List.mem_append_right _ (List.mem_append_right _ (List.mem_append_left _ h))))))))))))))))
  rcases List.mem_cons.mp hl with e | hl
  · rw [e]
    exact fun w h => List.mem_cons_of_mem _ (List.mem_append_left _ (List.mem_append_left _ (List.mem_append_left _ (List.mem_append_left _ (List.mem_append_left _ (List.mem_append_left _ (List.mem_append_left _ (List.mem_append_left _ (List.mem_append_left _ (List.mem_append_left _ (List.mem_append_right _ (List.mem_append_right _ (List.mem_append_right _ (List.mem_append_right _ (List.mem_append_right _ (List.mem_append_right _ (List.mem_append_left _ h)))))))))))))))))
  rcases List.mem_cons.mp hl with e | hl
  · rw [e]
    exact fun w h => List.mem_cons_of_mem _ (List.mem_append_left _ (List.mem_append_left _ (List.mem_append_left _ (List.mem_append_left _ (List.mem_append_left _ (List.mem_append_left _ (List.mem_append_left _ (List.mem_append_left _ (List.mem_append_left _ (List.mem_append_left _ (List.mem_append_right _ (List.mem_append_right _ (List.mem_append_right _ (List.mem_append_right _ (List.mem_append_right _ (List.mem_append_right _ (List.mem_append_right _ (List.mem_append_left _ h))))))))))))))))))
  rcases List.mem_cons.mp hl with e | hl
  · rw [e]
    exact fun w h => List.mem_cons_of_mem _ (List.mem_append_left _ (List.mem_append_left _ (List.mem_append_left _ (List.mem_append_left _ (List.mem_append_left _ (List.mem_append_left _ (List.mem_append_left _ (List.mem_append_left _ (List.mem_append_left _ (List.mem_append_left _ (List.mem_append_right _ (List.mem_append_right _ (List.mem_append_right _ (List.mem_append_right _ (List.mem_append_right _ (List.mem_append_right _ (List.mem_append_right _ (List.mem_append_right _ (List.mem_append_left _ h)))))))))))))))))))
  rcases List.mem_cons.mp hl with e | hl
  · rw [e]
    exact fun w h => List.mem_cons_of_mem _ (List.mem_append_left _ (List.mem_append_left _ (List.mem_append_left _ (List.mem_append_left _ (List.mem_append_left _ (List.mem_append_left _ (List.mem_append_left _ (List.mem_append_left _ (List.mem_append_left _ (List.mem_append_left _ (List.mem_append_right _ (List.mem_append_right _ (List.mem_append_right _ (List.mem_append_right _ (List.mem_append_right _ (List.mem_append_right _ (List.mem_append_right _ (List.mem_append_right _ (List.mem_append_right _ (List.mem_append_left _ h))))))))))))))))))))
  rcases List.mem_cons.mp hl with e | hl
  · rw [e]
    exact fun w h => List.mem_cons_of_mem _ (List.mem_append_left _ (List.mem_append_left _ (List.mem_append_left _ (List.mem_append_left _ (List.mem_append_left _ (List.mem_append_left _ (List.mem_append_left _ (List.mem_append_left _ (List.mem_append_left _ (List.mem_append_left _ (List.mem_append_right _ (List.mem_append_right _ (List.mem_append_right _ (List.mem_append_right _ (List.mem_append_right _ (List.mem_append_right _ (List.mem_append_right _ (List.mem_append_right _ (List.mem_append_right _ (List.mem_append_right _ (List.mem_append_left _ h)))))))))))))))))))))
  rcases List.mem_cons.mp hl with e | hl
  · rw [e]
    exact fun w h => List.mem_cons_of_mem _ (List.mem_append_left _ (List.mem_append_left _ (List.mem_append_left _ (List.mem_append_left _ (List.mem_append_left _ (List.mem_append_left _ (List.mem_append_left _ (List.mem_append_left _ (List.mem_append_left _ (List.mem_append_left _ (List.mem_append_right _ (List.mem_append_right _ (List.mem_append_right _ (List.mem_append_right _ (List.mem_append_right _ (List.mem_append_right _ (List.mem_append_right _ (List.mem_append_right _ (List.mem_append_right _ (List.mem_append_right _ (List.mem_append_right _ (List.mem_append_left _ h))))))))))))))))))))))
  rcases List.mem_cons.mp hl with e | hl
  · rw [e]
    exact fun w h => List.mem_cons_of_mem _ (List.mem_append_left _ (List.mem_append_left _ (List.mem_append_left _ (List.mem_append_left _ (List.mem_append_left _ (List.mem_append_left _ (List.mem_append_left _ (List.mem_append_left _ (List.mem_append_left _ (List.mem_append_left _ (List.mem_append_right _ (List.mem_append_right _ (List.mem_append_right _ (List.mem_append_right _ (List.mem_append_right _ (List.mem_append_right _ (List.mem_append_right _ (List.mem_append_right _ (List.mem_append_right _ (List.mem_append_right _ (List.mem_append_right _ (List.mem_append_right _ (List.mem_append_left _ h)))))))))))))))))))))))
  rcases List.mem_cons.mp hl with e | hl
  · rw [e]
    exact fun w h => List.mem_cons_of_mem _ (List.mem_append_left _ (List.mem_append_left _ (List.mem_append_left _ (List.mem_append_left _ (List.mem_append_left _ (List.mem_append_left _ (List.mem_append_left _ (List.mem_append_left _ (List.mem_append_left _ (List.mem_append_left _ (List.mem_append_right _ (List.mem_append_right _ (List.mem_append_right _ (List.mem_append_right _ (List.mem_append_right _ (List.mem_append_right _ (List.mem_append_right _ (List.mem_append_right _ (List.mem_append_right _ (List.mem_append_right _ (List.mem_append_right _ (List.mem_append_right _ (List.mem_append_right _ (List.mem_append_left _ h))))))))))))))))))))))))
  rcases List.mem_cons.mp hl with e | hl
  · rw [e]
    exact fun w h => List.mem_cons_of_mem _ (List.mem_append_left _ (List.mem_append_left _ (List.mem_append_left _ (List.mem_append_left _ (List.mem_append_left _ (List.mem_append_left _ (List.mem_append_left _ (List.mem_append_left _ (List.mem_append_left _ (List.mem_append_left _ (List.mem_append_right _ (List.mem_append_right _ (List.mem_append_right _ (List.mem_append_right _ (List.mem_append_right _ (List.mem_append_right _ (List.mem_append_right _ (List.mem_append_right _ (List.mem_append_right _ (List.mem_append_right _ (List.mem_append_right _ (List.mem_append_right _ (List.mem_append_right _ (List.mem_append_right _ h))))))))))))))))))))))))
  rcases List.mem_cons.mp hl with e | hl
  · rw [e]
    exact fun w h => List.mem_cons_of_mem _ (List.mem_append_left _ (List.mem_append_left _ (List.mem_append_left _ (List.mem_append_left _ (List.mem_append_left _ (List.mem_append_left _ (List.mem_append_left _ (List.mem_append_left _ (List.mem_append_left _ (List.mem_append_right _ h))))))))))
  rcases List.mem_cons.mp hl with e | hl
  · rw [e]
    exact fun w h => List.mem_cons_of_mem _ (List.mem_append_left _ (List.mem_append_left _ (List.mem_append_left _ (List.mem_append_left _ (List.mem_append_left _ (List.mem_append_left _ (List.mem_append_left _ (List.mem_append_left _ (List.mem_append_right _ h)))))))))
  rcases List.mem_cons.mp hl with e | hl
  · rw [e]
    exact fun w h => List.mem_cons_of_mem _ (List.mem_append_left _ (List.mem_append_left _ (List.mem_append_left _ (List.mem_append_left _ (List.mem_append_left _ (List.mem_append_left _ (List.mem_append_left _ (List.mem_append_right _ h))))))))
  rcases List.mem_cons.mp hl with e | hl
  · rw [e]
    exact fun w h => List.mem_cons_of_mem _ (List.mem_append_left _ (List.mem_append_left _ (List.mem_append_left _ (List.mem_append_left _ (List.mem_append_left _ (List.mem_append_left _ (List.mem_append_right _ h)))))))
  rcases List.mem_cons.mp hl with e | hl
  · rw [e]
    exact fun w h => List.mem_cons_of_mem _ (List.mem_append_left _ (List.mem_append_left _ (List.mem_append_left _ (List.mem_append_left _ (List.mem_append_left _ (List.mem_append_right _ h))))))
  rcases List.mem_cons.mp hl with e | hl
  · rw [e]
    exact fun w h => List.mem_cons_of_mem _ (List.mem_append_left _ (List.mem_append_left _ (List.mem_append_left _ (List.mem_append_left _ (List.mem_append_right _ h)))))
  rcases List.mem_cons.mp hl with e | hl
  · rw [e]
    exact fun w h => List.mem_cons_of_mem _ (List.mem_append_left _ (List.mem_append_left _ (List.mem_append_left _ (List.mem_append_right _ h))))
  rcases List.mem_cons.mp hl with e | hl
  · rw [e]
    exact fun w h => List.mem_cons_of_mem _ (List.mem_append_left _ (List.mem_append_left _ (List.mem_append_right _ h)))
  rcases List.mem_cons.mp hl with e | hl
  · rw [e]
    exact fun w h => List.mem_cons_of_mem _ (List.mem_append_left _ (List.mem_append_right _ h))
  rcases List.mem_cons.mp hl with e | hl
  · rw [e]
    exact fun w h => List.mem_cons_of_mem _ (List.mem_append_right _ h)
  cases hl
theorem zB_X11_task_X50 : ∀ w ∈ wsX50, w ∈ wsX11_task := fun _ h => List.mem_cons_of_mem _ (List.mem_append_left _ (List.mem_append_left _ (List.mem_append_left _ (List.mem_append_left _ (List.mem_append_left _ (List.mem_append_left _ (List.mem_append_right _ h)))))))
theorem zB_X11_task_X100 : ∀ w ∈ wsX100, w ∈ wsX11_task := fun _ h => List.mem_cons_of_mem _ (List.mem_append_left _ (List.mem_append_left _ (List.mem_append_left _ (List.mem_append_left _ (List.mem_append_left _ (List.mem_append_right _ h))))))
theorem zB_X11_task_X90 : ∀ w ∈ wsX90, w ∈ wsX11_task := fun _ h => List.mem_cons_of_mem _ (List.mem_append_left _ (List.mem_append_left _ (List.mem_append_left _ (List.mem_append_left _ (List.mem_append_left _ (List.mem_append_left _ (List.mem_append_left _ (List.mem_append_left _ (List.mem_append_right _ h)))))))))
theorem zB_X11_task_X40 : ∀ w ∈ wsX40, w ∈ wsX11_task := fun _ h => List.mem_cons_of_mem _ (List.mem_append_left _ (List.mem_append_left _ (List.mem_append_left _ (List.mem_append_left _ (List.mem_append_left _ (List.mem_append_left _ (List.mem_append_left _ (List.mem_append_right _ h))))))))
set_option maxRecDepth 100000 in
theorem ggX11_task_X5_read : GoodIn wsX11_task wsX5_read := goodIn_hd (goodIn_c zc_wsX11_task_in [(0, 16)] rfl (by decide +kernel)) (goodIn_app (goodIn_app (goodIn_app (goodIn_app (goodIn_app (goodIn_c zc_wsX11_task_in [(0, 17), (0, 18), (0, 19), (0, 20), (0, 21), (0, 22), (0, 23), (1, 0), (1, 1), (1, 2), (1, 3), (1, 4), (1, 5), (1, 6), (1, 7), (1, 8), (1, 9), (1, 10), (1, 11), (1, 12), (1, 13), (1, 14), (1, 15), (1, 16)] rfl (by decide +kernel)) (goodIn_app (goodIn_c zc_wsX11_task_in [(1, 17), (1, 18), (1, 19), (1, 20), (1, 21), (1, 22), (1, 23), (2, 0), (2, 1), (2, 2), (2, 3), (2, 4), (2, 5), (2, 6), (2, 7), (2, 8), (2, 9), (2, 10), (2, 11), (2, 12), (2, 13), (2, 14), (2, 15), (2, 16)] rfl (by decide +kernel)) (goodIn_app (goodIn_c zc_wsX11_task_in [(2, 17), (2, 18), (2, 19), (2, 20), (2, 21), (2, 22), (2, 23), (0, 15), (3, 0), (3, 1), (3, 2), (3, 3), (3, 4), (3, 5), (3, 6), (3, 7), (3, 8), (3, 9), (3, 10), (3, 11), (3, 12), (3, 13), (3, 14), (3, 15)] rfl (by decide +kernel)) (goodIn_app (goodIn_c zc_wsX11_task_in [(3, 16), (3, 17), (3, 18), (3, 19), (3, 20), (3, 21), (3, 22), (3, 23), (4, 0), (4, 1), (4, 2), (4, 3), (4, 4), (4, 5), (4, 6), (4, 7), (4, 8), (4, 9), (4, 10), (4, 11), (4, 12), (4, 13), (4, 14), (4, 15)] rfl (by decide +kernel)) (goodIn_app (goodIn_c zc_wsX11_task_in [(4, 16), (4, 17), (4, 18), (4, 19), (4, 20), (4, 21), (4, 22), (4, 23), (5, 0), (5, 1), (5, 2), (5, 3), (5, 4), (5, 5), (5, 6), (5, 7), (5, 8), (5, 9), (5, 10), (5, 11), (5, 12), (5, 13), (5, 14), (5, 15)] rfl (by decide +kernel)) (goodIn_app (goodIn_c zc_wsX11_task_in [(5, 16), (5, 17), (5, 18), (5, 19), (5, 20), (5, 21), (5, 22), (5, 23), (6, 0), (6, 1), (6, 2), (6, 3), (6, 4), (6, 5), (6, 6), (6, 7), (6, 8), (6, 9), (6, 10), (6, 11), (6, 12), (6, 13), (6, 14), (6, 15)] rfl (by decide +kernel)) (goodIn_app (goodIn_c zc_wsX11_task_in [(6, 16), (6, 17), (6, 18), (6, 19), (6, 20), (6, 21), (6, 22), (6, 23), (7, 0), (7, 1), (7, 2), (7, 3), (7, 4), (7, 5), (7, 6), (7, 7), (7, 8), (7, 9), (7, 10), (7, 11), (7, 12), (7, 13), (7, 14), (7, 15)] rfl (by decide +kernel)) (goodIn_app (goodIn_c zc_wsX11_task_in [(7, 16), (7, 17), (7, 18), (7, 19), (7, 20), (7, 21), (7, 22), (7, 23), (8, 0), (8, 1), (8, 2), (8, 3), (8, 4), (8, 5), (8, 6), (8, 7), (8, 8), (8, 9), (8, 10), (8, 11), (8, 12), (8, 13), (8, 14), (8, 15)] rfl (by decide +kernel)) (goodIn_c zc_wsX11_task_in [(8, 16), (8, 17), (8, 18), (8, 19), (8, 20), (8, 21)] rfl (by decide +kernel)))))))))) (goodIn_sub zB_X11_task_X50 zgw_X50)) (goodIn_sub zB_X11_task_X100 zgw_X100)) (goodIn_sub zB_X11_task_X90 zgw_X90)) (goodIn_sub zB_X11_task_X40 zgw_X40))
set_option maxRecDepth 100000 in
theorem gX11_task_X5_read : GoodIn wsX11_task (wsV RX11 100 RX5 yX5_read wsX5_read) := goodIn_app (goodIn_r _ [13, 14, 15, 16] rfl (by decide +kernel)) ggX11_task_X5_read
theorem zB_X11_task_X110 : ∀ w ∈ wsX110, w ∈ wsX11_task := fun _ h => List.mem_cons_of_mem _ (List.mem_append_left _ (List.mem_append_left _ (List.mem_append_left _ (List.mem_append_left _ (List.mem_append_left _ (List.mem_append_left _ (List.mem_append_left _ (List.mem_append_left _ (List.mem_append_left _ (List.mem_append_right _ h))))))))))
set_option maxRecDepth 100000 in
theorem ggX11_task_X11_refuse : GoodIn wsX11_task wsX11_refuse := goodIn_hd (goodIn_c zc_wsX11_task_in [(9, 2)] rfl (by decide +kernel)) (goodIn_app (goodIn_c zc_wsX11_task_in [(9, 3)] rfl (by decide +kernel)) (goodIn_sub zB_X11_task_X110 zgw_X110))
set_option maxRecDepth 100000 in
theorem gX11_task_X11_refuse : GoodIn wsX11_task (wsV RX11 92 RX11 yX11_refuse wsX11_refuse) := goodIn_app (goodIn_r _ [215, 216, 217, 218] rfl (by decide +kernel)) ggX11_task_X11_refuse
theorem zB_X11_task_X20 : ∀ w ∈ wsX20, w ∈ wsX11_task := fun _ h => List.mem_cons_of_mem _ (List.mem_append_left _ (List.mem_append_left _ (List.mem_append_left _ (List.mem_append_left _ (List.mem_append_right _ h)))))
theorem zB_X11_task_X60 : ∀ w ∈ wsX60, w ∈ wsX11_task := fun _ h => List.mem_cons_of_mem _ (List.mem_append_left _ (List.mem_append_left _ (List.mem_append_left _ (List.mem_append_right _ h))))
set_option maxRecDepth 100000 in
theorem ggX11_task_X9_settle : GoodIn wsX11_task wsX9_settle := goodIn_hd (goodIn_c zc_wsX11_task_in [(9, 7)] rfl (by decide +kernel)) (goodIn_app (goodIn_app (goodIn_app (goodIn_app (goodIn_app (goodIn_c zc_wsX11_task_in [(9, 8), (1, 7), (9, 9), (9, 10), (9, 11), (9, 12), (9, 13), (9, 14), (9, 15), (9, 16), (9, 17), (9, 18), (9, 19), (9, 20), (9, 21), (9, 22), (9, 23), (10, 0), (10, 1), (10, 2), (10, 3), (10, 4), (10, 5), (10, 6)] rfl (by decide +kernel)) (goodIn_app (goodIn_c zc_wsX11_task_in [(10, 7), (10, 8), (10, 9), (10, 10), (10, 11), (10, 12), (10, 13), (10, 14), (10, 15), (10, 16), (10, 17), (10, 18), (10, 19), (10, 20), (10, 21), (10, 22), (10, 23), (11, 0), (1, 18), (11, 1), (11, 2), (11, 3), (11, 4), (11, 5)] rfl (by decide +kernel)) (goodIn_app (goodIn_c zc_wsX11_task_in [(11, 6), (11, 7), (11, 8), (4, 14), (11, 9), (4, 16), (6, 8), (11, 10), (11, 11), (11, 12), (11, 13), (6, 9), (11, 14), (11, 15), (11, 16), (11, 17), (11, 18), (9, 1), (11, 19), (11, 20), (11, 21), (11, 22), (11, 23), (12, 0)] rfl (by decide +kernel)) (goodIn_app (goodIn_c zc_wsX11_task_in [(12, 1), (12, 2), (12, 3), (12, 4), (12, 5), (12, 6), (12, 7), (12, 8), (12, 9), (12, 10), (12, 11), (12, 12), (12, 13), (12, 14), (12, 15), (12, 16), (12, 17), (12, 18), (12, 19), (12, 20), (12, 21), (12, 22), (12, 23), (13, 0)] rfl (by decide +kernel)) (goodIn_c zc_wsX11_task_in [(13, 1), (13, 2), (13, 3), (13, 4), (13, 5), (13, 6), (13, 7), (13, 8), (13, 9)] rfl (by decide +kernel)))))) (goodIn_sub zB_X11_task_X90 zgw_X90)) (goodIn_sub zB_X11_task_X20 zgw_X20)) (goodIn_sub zB_X11_task_X40 zgw_X40)) (goodIn_sub zB_X11_task_X60 zgw_X60))
set_option maxRecDepth 100000 in
theorem gX11_task_X9_settle : GoodIn wsX11_task (wsV RX11 104 RX9 yX9_settle wsX9_settle) := goodIn_app (goodIn_r _ [221, 222, 223, 28] rfl (by decide +kernel)) ggX11_task_X9_settle
set_option maxRecDepth 100000 in
theorem ggX11_task_X2_fillFree : GoodIn wsX11_task wsX2_fillFree := goodIn_c zc_wsX11_task_in [(13, 13), (9, 15), (9, 20), (20, 0), (20, 1), (20, 2), (20, 3), (20, 4), (20, 5)] rfl (by decide +kernel)
set_option maxRecDepth 100000 in
theorem gX11_task_X2_fillFree : GoodIn wsX11_task (wsV RX11 111 RX2 yX2_fillFree wsX2_fillFree) := goodIn_app (goodIn_r _ [323, 324, 325, 230] rfl (by decide +kernel)) ggX11_task_X2_fillFree
theorem zB_X11_task_X10 : ∀ w ∈ wsX10, w ∈ wsX11_task := fun _ h => List.mem_cons_of_mem _ (List.mem_append_left _ (List.mem_append_left _ (List.mem_append_right _ h)))
set_option maxRecDepth 100000 in
theorem ggX11_task_X1_forget : GoodIn wsX11_task wsX1_forget := goodIn_hd (goodIn_c zc_wsX11_task_in [(13, 18)] rfl (by decide +kernel)) (goodIn_app (goodIn_c zc_wsX11_task_in [(13, 19), (13, 20)] rfl (by decide +kernel)) (goodIn_sub zB_X11_task_X10 zgw_X10))
set_option maxRecDepth 100000 in
theorem gX11_task_X1_forget : GoodIn wsX11_task (wsV RX11 117 RX1 yX1_forget wsX1_forget) := goodIn_app (goodIn_r _ [327, 328, 329, 330] rfl (by decide +kernel)) ggX11_task_X1_forget
theorem zB_X11_task_X30 : ∀ w ∈ wsX30, w ∈ wsX11_task := fun _ h => List.mem_cons_of_mem _ (List.mem_append_left _ (List.mem_append_right _ h))
set_option maxRecDepth 100000 in
theorem ggX11_task_X3_forget : GoodIn wsX11_task wsX3_forget := goodIn_hd (goodIn_c zc_wsX11_task_in [(14, 1)] rfl (by decide +kernel)) (goodIn_app (goodIn_c zc_wsX11_task_in [(14, 2)] rfl (by decide +kernel)) (goodIn_sub zB_X11_task_X30 zgw_X30))
set_option maxRecDepth 100000 in
theorem gX11_task_X3_forget : GoodIn wsX11_task (wsV RX11 120 RX3 yX3_forget wsX3_forget) := goodIn_app (goodIn_r _ [334, 335, 336, 337] rfl (by decide +kernel)) ggX11_task_X3_forget
set_option maxRecDepth 100000 in
theorem ggX11_task_X0_forget : GoodIn wsX11_task wsX0_forget := goodIn_c zc_wsX11_task_in [(14, 7), (14, 8), (14, 9), (24, 0), (24, 1), (24, 2), (24, 3), (24, 4)] rfl (by decide +kernel)
set_option maxRecDepth 100000 in
theorem gX11_task_X0_forget : GoodIn wsX11_task (wsV RX11 121 RX0 yX0_forget wsX0_forget) := goodIn_app (goodIn_r _ [340, 341, 342, 343] rfl (by decide +kernel)) ggX11_task_X0_forget
set_option maxRecDepth 100000 in
theorem ggX11_has_X4_countAnswers : GoodIn wsX11_has wsX4_countAnswers := goodIn_r _ [15, 16, 17, 43, 44, 45, 46, 47, 48, 49, 50, 51, 52] rfl (by decide +kernel)
set_option maxRecDepth 100000 in
theorem gX11_has_X4_countAnswers : GoodIn wsX11_has (wsV RX11 143 RX4 yX4_countAnswers wsX4_countAnswers) := goodIn_app (goodIn_r _ [11, 12, 13, 14] rfl (by decide +kernel)) ggX11_has_X4_countAnswers
set_option maxRecDepth 100000 in
theorem ggX11_letter_X9_hasFormat : GoodIn wsX11_letter wsX9_hasFormat := goodIn_r _ [9, 10, 37, 38, 39, 40, 41, 42, 43, 44, 45] rfl (by decide +kernel)
set_option maxRecDepth 100000 in
theorem gX11_letter_X9_hasFormat : GoodIn wsX11_letter (wsV RX11 153 RX9 yX9_hasFormat wsX9_hasFormat) := goodIn_app (goodIn_r _ [5, 6, 7, 8] rfl (by decide +kernel)) ggX11_letter_X9_hasFormat
theorem zB_X11_letter_X90 : ∀ w ∈ wsX90, w ∈ wsX11_letter := fun _ h => List.mem_cons_of_mem _ (List.mem_append_left _ (List.mem_append_right _ h))
theorem zB_X11_letter_X40 : ∀ w ∈ wsX40, w ∈ wsX11_letter := fun _ h => List.mem_cons_of_mem _ (List.mem_append_right _ h)
set_option maxRecDepth 100000 in
theorem ggX11_letter_X9_hasNumber : GoodIn wsX11_letter wsX9_hasNumber := goodIn_hd (goodIn_r _ [14] rfl (by decide +kernel)) (goodIn_app (goodIn_app (goodIn_r _ [15, 16] rfl (by decide +kernel)) (goodIn_sub zB_X11_letter_X90 zgw_X90)) (goodIn_sub zB_X11_letter_X40 zgw_X40))
set_option maxRecDepth 100000 in
theorem gX11_letter_X9_hasNumber : GoodIn wsX11_letter (wsV RX11 157 RX9 yX9_hasNumber wsX9_hasNumber) := goodIn_app (goodIn_r _ [11, 12, 13, 8] rfl (by decide +kernel)) ggX11_letter_X9_hasNumber
set_option maxRecDepth 100000 in
theorem ggX11_letter_X11_letterOf : GoodIn wsX11_letter wsX11_letterOf := goodIn_r _ [20] rfl (by decide +kernel)
set_option maxRecDepth 100000 in
theorem gX11_letter_X11_letterOf : GoodIn wsX11_letter (va_wsS RX11 166 yX11_letterOf wsX11_letterOf) := goodIn_app (goodIn_r _ [17, 18, 19] rfl (by decide +kernel)) ggX11_letter_X11_letterOf
set_option maxRecDepth 100000 in
theorem ggX11_format_X9_hasFormat : GoodIn wsX11_format wsX9_hasFormat := goodIn_r _ [9, 10, 27, 28, 29, 30, 31, 32, 33, 34, 35] rfl (by decide +kernel)
set_option maxRecDepth 100000 in
theorem gX11_format_X9_hasFormat : GoodIn wsX11_format (wsV RX11 153 RX9 yX9_hasFormat wsX9_hasFormat) := goodIn_app (goodIn_r _ [5, 6, 7, 8] rfl (by decide +kernel)) ggX11_format_X9_hasFormat
theorem zB_X11_number_X90 : ∀ w ∈ wsX90, w ∈ wsX11_number := fun _ h => List.mem_cons_of_mem _ (List.mem_append_left _ (List.mem_append_left _ (List.mem_append_right _ h)))
theorem zB_X11_number_X40 : ∀ w ∈ wsX40, w ∈ wsX11_number := fun _ h => List.mem_cons_of_mem _ (List.mem_append_left _ (List.mem_append_right _ h))
set_option maxRecDepth 100000 in
theorem ggX11_number_X9_hasNumber : GoodIn wsX11_number wsX9_hasNumber := goodIn_hd (goodIn_r _ [12] rfl (by decide +kernel)) (goodIn_app (goodIn_app (goodIn_r _ [13, 14] rfl (by decide +kernel)) (goodIn_sub zB_X11_number_X90 zgw_X90)) (goodIn_sub zB_X11_number_X40 zgw_X40))
set_option maxRecDepth 100000 in
theorem gX11_number_X9_hasNumber : GoodIn wsX11_number (wsV RX11 157 RX9 yX9_hasNumber wsX9_hasNumber) := goodIn_app (goodIn_r _ [8, 9, 10, 11] rfl (by decide +kernel)) ggX11_number_X9_hasNumber
set_option maxRecDepth 100000 in
theorem ggX11_number_X4_madeOf : GoodIn wsX11_number wsX4_madeOf := goodIn_r _ [19, 20, 21, 47, 48, 49, 50, 51, 52, 53, 54, 55, 56] rfl (by decide +kernel)
set_option maxRecDepth 100000 in
theorem gX11_number_X4_madeOf : GoodIn wsX11_number (wsV RX11 182 RX4 yX4_madeOf wsX4_madeOf) := goodIn_app (goodIn_r _ [15, 16, 17, 18] rfl (by decide +kernel)) ggX11_number_X4_madeOf
theorem zB_X11_told_X90 : ∀ w ∈ wsX90, w ∈ wsX11_told := fun _ h => List.mem_cons_of_mem _ (List.mem_append_left _ (List.mem_append_right _ h))
theorem zB_X11_told_X40 : ∀ w ∈ wsX40, w ∈ wsX11_told := fun _ h => List.mem_cons_of_mem _ (List.mem_append_right _ h)
set_option maxRecDepth 100000 in
theorem ggX11_told_X9_hasNumber : GoodIn wsX11_told wsX9_hasNumber := goodIn_hd (goodIn_r _ [8] rfl (by decide +kernel)) (goodIn_app (goodIn_app (goodIn_r _ [9, 10] rfl (by decide +kernel)) (goodIn_sub zB_X11_told_X90 zgw_X90)) (goodIn_sub zB_X11_told_X40 zgw_X40))
set_option maxRecDepth 100000 in
theorem gX11_told_X9_hasNumber : GoodIn wsX11_told (wsV RX11 157 RX9 yX9_hasNumber wsX9_hasNumber) := goodIn_app (goodIn_r _ [4, 5, 6, 7] rfl (by decide +kernel)) ggX11_told_X9_hasNumber
set_option maxRecDepth 100000 in
theorem ggX11_told_X4_madeOf : GoodIn wsX11_told wsX4_madeOf := goodIn_r _ [15, 16, 17, 48, 49, 50, 51, 52, 53, 54, 55, 56, 57] rfl (by decide +kernel)
set_option maxRecDepth 100000 in
theorem gX11_told_X4_madeOf : GoodIn wsX11_told (wsV RX11 182 RX4 yX4_madeOf wsX4_madeOf) := goodIn_app (goodIn_r _ [11, 12, 13, 14] rfl (by decide +kernel)) ggX11_told_X4_madeOf
set_option maxRecDepth 100000 in
theorem ggX11_told_X4_amountOf : GoodIn wsX11_told wsX4_amountOf := goodIn_r _ [21, 16, 22, 48, 49, 50, 51, 52, 53, 54, 55, 56, 57] rfl (by decide +kernel)
set_option maxRecDepth 100000 in
theorem gX11_told_X4_amountOf : GoodIn wsX11_told (wsV RX11 196 RX4 yX4_amountOf wsX4_amountOf) := goodIn_app (goodIn_r _ [18, 19, 20, 14] rfl (by decide +kernel)) ggX11_told_X4_amountOf
theorem zB_X11_range_X90 : ∀ w ∈ wsX90, w ∈ wsX11_range := fun _ h => List.mem_cons_of_mem _ (List.mem_append_left _ (List.mem_append_left _ (List.mem_append_right _ h)))
theorem zB_X11_range_X40 : ∀ w ∈ wsX40, w ∈ wsX11_range := fun _ h => List.mem_cons_of_mem _ (List.mem_append_right _ h)
set_option maxRecDepth 100000 in
theorem ggX11_range_X9_hasNumber : GoodIn wsX11_range wsX9_hasNumber := goodIn_hd (goodIn_r _ [11] rfl (by decide +kernel)) (goodIn_app (goodIn_app (goodIn_r _ [12, 13] rfl (by decide +kernel)) (goodIn_sub zB_X11_range_X90 zgw_X90)) (goodIn_sub zB_X11_range_X40 zgw_X40))
set_option maxRecDepth 100000 in
theorem gX11_range_X9_hasNumber : GoodIn wsX11_range (wsV RX11 157 RX9 yX9_hasNumber wsX9_hasNumber) := goodIn_app (goodIn_r _ [7, 8, 9, 10] rfl (by decide +kernel)) ggX11_range_X9_hasNumber
theorem zB_X11_uses_X90 : ∀ w ∈ wsX90, w ∈ wsX11_uses := fun _ h => List.mem_cons_of_mem _ (List.mem_append_left _ (List.mem_append_right _ h))
theorem zB_X11_uses_X40 : ∀ w ∈ wsX40, w ∈ wsX11_uses := fun _ h => List.mem_cons_of_mem _ (List.mem_append_right _ h)
set_option maxRecDepth 100000 in
theorem ggX11_uses_X9_hasNumber : GoodIn wsX11_uses wsX9_hasNumber := goodIn_hd (goodIn_r _ [7] rfl (by decide +kernel)) (goodIn_app (goodIn_app (goodIn_r _ [8, 9] rfl (by decide +kernel)) (goodIn_sub zB_X11_uses_X90 zgw_X90)) (goodIn_sub zB_X11_uses_X40 zgw_X40))
set_option maxRecDepth 100000 in
theorem gX11_uses_X9_hasNumber : GoodIn wsX11_uses (wsV RX11 157 RX9 yX9_hasNumber wsX9_hasNumber) := goodIn_app (goodIn_r _ [3, 4, 5, 6] rfl (by decide +kernel)) ggX11_uses_X9_hasNumber
set_option maxRecDepth 100000 in
theorem ggX11_uses_X4_madeFrom : GoodIn wsX11_uses wsX4_madeFrom := goodIn_r _ [14, 15, 16, 17, 18, 13, 19, 20, 21, 22, 23, 49, 50, 51, 52, 53, 54, 55, 56, 57, 58] rfl (by decide +kernel)
set_option maxRecDepth 100000 in
theorem gX11_uses_X4_madeFrom : GoodIn wsX11_uses (wsV RX11 214 RX4 yX4_madeFrom wsX4_madeFrom) := goodIn_app (goodIn_r _ [10, 11, 12, 13] rfl (by decide +kernel)) ggX11_uses_X4_madeFrom
theorem zB_X11_depth_X90 : ∀ w ∈ wsX90, w ∈ wsX11_depth := fun _ h => List.mem_cons_of_mem _ (List.mem_append_left _ (List.mem_append_right _ h))
theorem zB_X11_depth_X40 : ∀ w ∈ wsX40, w ∈ wsX11_depth := fun _ h => List.mem_cons_of_mem _ (List.mem_append_right _ h)
set_option maxRecDepth 100000 in
theorem ggX11_depth_X9_hasNumber : GoodIn wsX11_depth wsX9_hasNumber := goodIn_hd (goodIn_r _ [8] rfl (by decide +kernel)) (goodIn_app (goodIn_app (goodIn_r _ [9, 10] rfl (by decide +kernel)) (goodIn_sub zB_X11_depth_X90 zgw_X90)) (goodIn_sub zB_X11_depth_X40 zgw_X40))
set_option maxRecDepth 100000 in
theorem gX11_depth_X9_hasNumber : GoodIn wsX11_depth (wsV RX11 157 RX9 yX9_hasNumber wsX9_hasNumber) := goodIn_app (goodIn_r _ [4, 5, 6, 7] rfl (by decide +kernel)) ggX11_depth_X9_hasNumber
theorem zB_X11_chosen_X90 : ∀ w ∈ wsX90, w ∈ wsX11_chosen := fun _ h => List.mem_cons_of_mem _ (List.mem_append_left _ (List.mem_append_left _ (List.mem_append_right _ h)))
theorem zB_X11_chosen_X40 : ∀ w ∈ wsX40, w ∈ wsX11_chosen := fun _ h => List.mem_cons_of_mem _ (List.mem_append_left _ (List.mem_append_right _ h))
theorem zB_X11_chosen_X20 : ∀ w ∈ wsX20, w ∈ wsX11_chosen := fun _ h => List.mem_cons_of_mem _ (List.mem_append_right _ h)
set_option maxRecDepth 100000 in
theorem ggX11_chosen_X9_hasChoice : GoodIn wsX11_chosen wsX9_hasChoice := goodIn_hd (goodIn_r _ [7] rfl (by decide +kernel)) (goodIn_app (goodIn_app (goodIn_app (goodIn_r _ [8, 9, 10, 11] rfl (by decide +kernel)) (goodIn_sub zB_X11_chosen_X90 zgw_X90)) (goodIn_sub zB_X11_chosen_X40 zgw_X40)) (goodIn_sub zB_X11_chosen_X20 zgw_X20))
set_option maxRecDepth 100000 in
theorem gX11_chosen_X9_hasChoice : GoodIn wsX11_chosen (wsV RX11 220 RX9 yX9_hasChoice wsX9_hasChoice) := goodIn_app (goodIn_r _ [3, 4, 5, 6] rfl (by decide +kernel)) ggX11_chosen_X9_hasChoice
set_option maxRecDepth 100000 in
theorem ggX11_chosen_X9_hasNumber : GoodIn wsX11_chosen wsX9_hasNumber := goodIn_hd (goodIn_r _ [15] rfl (by decide +kernel)) (goodIn_app (goodIn_app (goodIn_r _ [8, 9] rfl (by decide +kernel)) (goodIn_sub zB_X11_chosen_X90 zgw_X90)) (goodIn_sub zB_X11_chosen_X40 zgw_X40))
set_option maxRecDepth 100000 in
theorem gX11_chosen_X9_hasNumber : GoodIn wsX11_chosen (wsV RX11 157 RX9 yX9_hasNumber wsX9_hasNumber) := goodIn_app (goodIn_r _ [12, 13, 14, 6] rfl (by decide +kernel)) ggX11_chosen_X9_hasNumber
set_option maxRecDepth 100000 in
theorem ggX11_chosen_X9_formatOf : GoodIn wsX11_chosen wsX9_formatOf := goodIn_hd (goodIn_r _ [19] rfl (by decide +kernel)) (goodIn_app (goodIn_app (goodIn_app (goodIn_r _ [8, 9, 10, 20] rfl (by decide +kernel)) (goodIn_sub zB_X11_chosen_X90 zgw_X90)) (goodIn_sub zB_X11_chosen_X40 zgw_X40)) (goodIn_sub zB_X11_chosen_X20 zgw_X20))
set_option maxRecDepth 100000 in
theorem gX11_chosen_X9_formatOf : GoodIn wsX11_chosen (wsV RX11 224 RX9 yX9_formatOf wsX9_formatOf) := goodIn_app (goodIn_r _ [16, 17, 18, 6] rfl (by decide +kernel)) ggX11_chosen_X9_formatOf
theorem zB_X11_choose_X90 : ∀ w ∈ wsX90, w ∈ wsX11_choose := fun _ h => List.mem_cons_of_mem _ (List.mem_append_left _ (List.mem_append_left _ (List.mem_append_right _ h)))
theorem zB_X11_choose_X40 : ∀ w ∈ wsX40, w ∈ wsX11_choose := fun _ h => List.mem_cons_of_mem _ (List.mem_append_right _ h)
theorem zB_X11_choose_X20 : ∀ w ∈ wsX20, w ∈ wsX11_choose := fun _ h => List.mem_cons_of_mem _ (List.mem_append_left _ (List.mem_append_right _ h))
set_option maxRecDepth 100000 in
theorem ggX11_choose_X9_hasChoice : GoodIn wsX11_choose wsX9_hasChoice := goodIn_hd (goodIn_r _ [9] rfl (by decide +kernel)) (goodIn_app (goodIn_app (goodIn_app (goodIn_r _ [10, 11, 12, 13] rfl (by decide +kernel)) (goodIn_sub zB_X11_choose_X90 zgw_X90)) (goodIn_sub zB_X11_choose_X40 zgw_X40)) (goodIn_sub zB_X11_choose_X20 zgw_X20))
set_option maxRecDepth 100000 in
theorem gX11_choose_X9_hasChoice : GoodIn wsX11_choose (wsV RX11 220 RX9 yX9_hasChoice wsX9_hasChoice) := goodIn_app (goodIn_r _ [5, 6, 7, 8] rfl (by decide +kernel)) ggX11_choose_X9_hasChoice
set_option maxRecDepth 100000 in
theorem ggX11_choose_X9_hasFormat : GoodIn wsX11_choose wsX9_hasFormat := goodIn_r _ [17, 18, 57, 58, 59, 60, 61, 62, 63, 64, 65] rfl (by decide +kernel)
set_option maxRecDepth 100000 in
theorem gX11_choose_X9_hasFormat : GoodIn wsX11_choose (wsV RX11 153 RX9 yX9_hasFormat wsX9_hasFormat) := goodIn_app (goodIn_r _ [14, 15, 16, 8] rfl (by decide +kernel)) ggX11_choose_X9_hasFormat
noncomputable def zc_wsX11_choose : List (List Cond) := [wsX11_choose_r1, wsX11_choose_r2, wsX110, wsX90, wsX20, wsX40]
set_option maxRecDepth 20000 in
theorem zc_wsX11_choose_in : ∀ l ∈ zc_wsX11_choose, ∀ w ∈ l, w ∈ wsX11_choose := by
  intro l hl
  unfold zc_wsX11_choose at hl
  rcases List.mem_cons.mp hl with e | hl
  · rw [e]
    exact fun w h => List.mem_cons_of_mem _ (List.mem_append_left _ (List.mem_append_left _ (List.mem_append_left _ (List.mem_append_left _ (List.mem_append_left _ h)))))
  rcases List.mem_cons.mp hl with e | hl
  · rw [e]
    exact fun w h => List.mem_cons_of_mem _ (List.mem_append_left _ (List.mem_append_left _ (List.mem_append_left _ (List.mem_append_left _ (List.mem_append_right _ h)))))
  rcases List.mem_cons.mp hl with e | hl
  · rw [e]
    exact fun w h => List.mem_cons_of_mem _ (List.mem_append_left _ (List.mem_append_left _ (List.mem_append_left _ (List.mem_append_right _ h))))
  rcases List.mem_cons.mp hl with e | hl
  · rw [e]
    exact fun w h => List.mem_cons_of_mem _ (List.mem_append_left _ (List.mem_append_left _ (List.mem_append_right _ h)))
  rcases List.mem_cons.mp hl with e | hl
  · rw [e]
    exact fun w h => List.mem_cons_of_mem _ (List.mem_append_left _ (List.mem_append_right _ h))
  rcases List.mem_cons.mp hl with e | hl
  · rw [e]
    exact fun w h => List.mem_cons_of_mem _ (List.mem_append_right _ h)
  cases hl
set_option maxRecDepth 100000 in
theorem ggX11_choose_X9_isFree : GoodIn wsX11_choose wsX9_isFree := goodIn_hd (goodIn_c zc_wsX11_choose_in [(0, 21)] rfl (by decide +kernel)) (goodIn_app (goodIn_app (goodIn_app (goodIn_c zc_wsX11_choose_in [(0, 11), (0, 22), (0, 23), (1, 0), (1, 1), (0, 7), (1, 2), (0, 9), (0, 10), (1, 3), (1, 4), (1, 5), (1, 6), (1, 7), (1, 8), (1, 9)] rfl (by decide +kernel)) (goodIn_sub zB_X11_choose_X90 zgw_X90)) (goodIn_sub zB_X11_choose_X20 zgw_X20)) (goodIn_sub zB_X11_choose_X40 zgw_X40))
set_option maxRecDepth 100000 in
theorem gX11_choose_X9_isFree : GoodIn wsX11_choose (wsV RX11 228 RX9 yX9_isFree wsX9_isFree) := goodIn_app (goodIn_r _ [19, 20, 21, 8] rfl (by decide +kernel)) ggX11_choose_X9_isFree
theorem zB_X11_choose_X110 : ∀ w ∈ wsX110, w ∈ wsX11_choose := fun _ h => List.mem_cons_of_mem _ (List.mem_append_left _ (List.mem_append_left _ (List.mem_append_left _ (List.mem_append_right _ h))))
set_option maxRecDepth 100000 in
theorem ggX11_choose_X11_refuse : GoodIn wsX11_choose wsX11_refuse := goodIn_hd (goodIn_r _ [39] rfl (by decide +kernel)) (goodIn_app (goodIn_r _ [40] rfl (by decide +kernel)) (goodIn_sub zB_X11_choose_X110 zgw_X110))
set_option maxRecDepth 100000 in
theorem gX11_choose_X11_refuse : GoodIn wsX11_choose (wsV RX11 92 RX11 yX11_refuse wsX11_refuse) := goodIn_app (goodIn_r _ [35, 36, 37, 38] rfl (by decide +kernel)) ggX11_choose_X11_refuse
theorem zB_X11_cost_X90 : ∀ w ∈ wsX90, w ∈ wsX11_cost := fun _ h => List.mem_cons_of_mem _ (List.mem_append_left _ (List.mem_append_left _ (List.mem_append_right _ h)))
theorem zB_X11_cost_X40 : ∀ w ∈ wsX40, w ∈ wsX11_cost := fun _ h => List.mem_cons_of_mem _ (List.mem_append_left _ (List.mem_append_right _ h))
theorem zB_X11_cost_X20 : ∀ w ∈ wsX20, w ∈ wsX11_cost := fun _ h => List.mem_cons_of_mem _ (List.mem_append_right _ h)
set_option maxRecDepth 100000 in
theorem ggX11_cost_X9_hasChoice : GoodIn wsX11_cost wsX9_hasChoice := goodIn_hd (goodIn_r _ [7] rfl (by decide +kernel)) (goodIn_app (goodIn_app (goodIn_app (goodIn_r _ [8, 9, 10, 11] rfl (by decide +kernel)) (goodIn_sub zB_X11_cost_X90 zgw_X90)) (goodIn_sub zB_X11_cost_X40 zgw_X40)) (goodIn_sub zB_X11_cost_X20 zgw_X20))
set_option maxRecDepth 100000 in
theorem gX11_cost_X9_hasChoice : GoodIn wsX11_cost (wsV RX11 220 RX9 yX9_hasChoice wsX9_hasChoice) := goodIn_app (goodIn_r _ [3, 4, 5, 6] rfl (by decide +kernel)) ggX11_cost_X9_hasChoice
noncomputable def zc_wsX11_cost : List (List Cond) := [wsX11_cost_r1, wsX11_cost_r2, wsX110, wsX90, wsX40, wsX20]
set_option maxRecDepth 20000 in
theorem zc_wsX11_cost_in : ∀ l ∈ zc_wsX11_cost, ∀ w ∈ l, w ∈ wsX11_cost := by
  intro l hl
  unfold zc_wsX11_cost at hl
  rcases List.mem_cons.mp hl with e | hl
  · rw [e]
    exact fun w h => List.mem_cons_of_mem _ (List.mem_append_left _ (List.mem_append_left _ (List.mem_append_left _ (List.mem_append_left _ (List.mem_append_left _ h)))))
  rcases List.mem_cons.mp hl with e | hl
  · rw [e]
    exact fun w h => List.mem_cons_of_mem _ (List.mem_append_left _ (List.mem_append_left _ (List.mem_append_left _ (List.mem_append_left _ (List.mem_append_right _ h)))))
  rcases List.mem_cons.mp hl with e | hl
  · rw [e]
    exact fun w h => List.mem_cons_of_mem _ (List.mem_append_left _ (List.mem_append_left _ (List.mem_append_left _ (List.mem_append_right _ h))))
  rcases List.mem_cons.mp hl with e | hl
  · rw [e]
    exact fun w h => List.mem_cons_of_mem _ (List.mem_append_left _ (List.mem_append_left _ (List.mem_append_right _ h)))
  rcases List.mem_cons.mp hl with e | hl
  · rw [e]
    exact fun w h => List.mem_cons_of_mem _ (List.mem_append_left _ (List.mem_append_right _ h))
  rcases List.mem_cons.mp hl with e | hl
  · rw [e]
    exact fun w h => List.mem_cons_of_mem _ (List.mem_append_right _ h)
  cases hl
set_option maxRecDepth 100000 in
theorem ggX11_cost_X9_priceOf : GoodIn wsX11_cost wsX9_priceOf := goodIn_hd (goodIn_c zc_wsX11_cost_in [(0, 14)] rfl (by decide +kernel)) (goodIn_app (goodIn_app (goodIn_app (goodIn_app (goodIn_c zc_wsX11_cost_in [(0, 15), (0, 7), (0, 8), (0, 16), (0, 17), (0, 18), (0, 19), (0, 5), (0, 20), (0, 21), (0, 22), (0, 23), (1, 0), (1, 1), (1, 2), (1, 3), (1, 4), (1, 5), (1, 6), (1, 7), (0, 9), (1, 8), (1, 9), (1, 10)] rfl (by decide +kernel)) (goodIn_c zc_wsX11_cost_in [(1, 11), (1, 12), (1, 13)] rfl (by decide +kernel))) (goodIn_sub zB_X11_cost_X90 zgw_X90)) (goodIn_sub zB_X11_cost_X40 zgw_X40)) (goodIn_sub zB_X11_cost_X20 zgw_X20))
set_option maxRecDepth 100000 in
theorem gX11_cost_X9_priceOf : GoodIn wsX11_cost (wsV RX11 231 RX9 yX9_priceOf wsX9_priceOf) := goodIn_app (goodIn_r _ [12, 13, 14, 6] rfl (by decide +kernel)) ggX11_cost_X9_priceOf
theorem zB_X11_casts_X90 : ∀ w ∈ wsX90, w ∈ wsX11_casts := fun _ h => List.mem_cons_of_mem _ (List.mem_append_left _ (List.mem_append_left _ (List.mem_append_right _ h)))
theorem zB_X11_casts_X40 : ∀ w ∈ wsX40, w ∈ wsX11_casts := fun _ h => List.mem_cons_of_mem _ (List.mem_append_left _ (List.mem_append_right _ h))
theorem zB_X11_casts_X20 : ∀ w ∈ wsX20, w ∈ wsX11_casts := fun _ h => List.mem_cons_of_mem _ (List.mem_append_right _ h)
set_option maxRecDepth 100000 in
theorem ggX11_casts_X9_hasChoice : GoodIn wsX11_casts wsX9_hasChoice := goodIn_hd (goodIn_r _ [7] rfl (by decide +kernel)) (goodIn_app (goodIn_app (goodIn_app (goodIn_r _ [8, 9, 10, 11] rfl (by decide +kernel)) (goodIn_sub zB_X11_casts_X90 zgw_X90)) (goodIn_sub zB_X11_casts_X40 zgw_X40)) (goodIn_sub zB_X11_casts_X20 zgw_X20))
set_option maxRecDepth 100000 in
theorem gX11_casts_X9_hasChoice : GoodIn wsX11_casts (wsV RX11 220 RX9 yX9_hasChoice wsX9_hasChoice) := goodIn_app (goodIn_r _ [3, 4, 5, 6] rfl (by decide +kernel)) ggX11_casts_X9_hasChoice
set_option maxRecDepth 100000 in
theorem ggX11_casts_X9_castsOf : GoodIn wsX11_casts wsX9_castsOf := goodIn_hd (goodIn_r _ [15] rfl (by decide +kernel)) (goodIn_app (goodIn_app (goodIn_app (goodIn_r _ [8, 9, 16, 17, 18, 19, 20, 21, 22, 23, 24, 25, 6, 26, 10, 27] rfl (by decide +kernel)) (goodIn_sub zB_X11_casts_X90 zgw_X90)) (goodIn_sub zB_X11_casts_X40 zgw_X40)) (goodIn_sub zB_X11_casts_X20 zgw_X20))
set_option maxRecDepth 100000 in
theorem gX11_casts_X9_castsOf : GoodIn wsX11_casts (wsV RX11 235 RX9 yX9_castsOf wsX9_castsOf) := goodIn_app (goodIn_r _ [12, 13, 14, 6] rfl (by decide +kernel)) ggX11_casts_X9_castsOf
noncomputable def zc_wsX11_fails : List (List Cond) := [wsX11_fails_r1, wsX11_fails_r2, wsX11_fails_r3, wsX11_fails_r4, wsX11_fails_r5, wsX110, wsX90, wsX70, wsX40, wsX20, wsX60]
set_option maxRecDepth 20000 in
theorem zc_wsX11_fails_in : ∀ l ∈ zc_wsX11_fails, ∀ w ∈ l, w ∈ wsX11_fails := by
  intro l hl
  unfold zc_wsX11_fails at hl
  rcases List.mem_cons.mp hl with e | hl
  · rw [e]
    exact fun w h => List.mem_cons_of_mem _ (List.mem_append_left _ (List.mem_append_left _ (List.mem_append_left _ (List.mem_append_left _ (List.mem_append_left _ (List.mem_append_left _ (List.mem_append_left _ h)))))))
  rcases List.mem_cons.mp hl with e | hl
  · rw [e]
    exact fun w h => List.mem_cons_of_mem _ (List.mem_append_left _ (List.mem_append_left _ (List.mem_append_left _ (List.mem_append_left _ (List.mem_append_left _ (List.mem_append_left _ (List.mem_append_right _ (List.mem_append_left _ h))))))))
  rcases List.mem_cons.mp hl with e | hl
  · rw [e]
    exact fun w h => List.mem_cons_of_mem _ (List.mem_append_left _ (List.mem_append_left _ (List.mem_append_left _ (List.mem_append_left _ (List.mem_append_left _ (List.mem_append_left _ (List.mem_append_right _ (List.mem_append_right _ (List.mem_append_left _ h)))))))))
  rcases List.mem_cons.mp hl with e | hl
  · rw [e]
    exact fun w h => List.mem_cons_of_mem _ (List.mem_append_left _ (List.mem_append_left _ (List.mem_append_left _ (List.mem_append_left _ (List.mem_append_left _ (List.mem_append_left _ (List.mem_append_right _ (List.mem_append_right _ (List.mem_append_right _ (List.mem_append_left _ h))))))))))
  rcases List.mem_cons.mp hl with e | hl
  · rw [e]
    exact fun w h => List.mem_cons_of_mem _ (List.mem_append_left _ (List.mem_append_left _ (List.mem_append_left _ (List.mem_append_left _ (List.mem_append_left _ (List.mem_append_left _ (List.mem_append_right _ (List.mem_append_right _ (List.mem_append_right _ (List.mem_append_right _ h))))))))))
  rcases List.mem_cons.mp hl with e | hl
  · rw [e]
    exact fun w h => List.mem_cons_of_mem _ (List.mem_append_left _ (List.mem_append_left _ (List.mem_append_left _ (List.mem_append_left _ (List.mem_append_left _ (List.mem_append_right _ h))))))
  rcases List.mem_cons.mp hl with e | hl
  · rw [e]
    exact fun w h => List.mem_cons_of_mem _ (List.mem_append_left _ (List.mem_append_left _ (List.mem_append_left _ (List.mem_append_left _ (List.mem_append_right _ h)))))
  rcases List.mem_cons.mp hl with e | hl
  · rw [e]
    exact fun w h => List.mem_cons_of_mem _ (List.mem_append_left _ (List.mem_append_left _ (List.mem_append_left _ (List.mem_append_right _ h))))
  rcases List.mem_cons.mp hl with e | hl
  · rw [e]
    exact fun w h => List.mem_cons_of_mem _ (List.mem_append_left _ (List.mem_append_left _ (List.mem_append_right _ h)))
  rcases List.mem_cons.mp hl with e | hl
  · rw [e]
    exact fun w h => List.mem_cons_of_mem _ (List.mem_append_left _ (List.mem_append_right _ h))
  rcases List.mem_cons.mp hl with e | hl
  · rw [e]
    exact fun w h => List.mem_cons_of_mem _ (List.mem_append_right _ h)
  cases hl
theorem zB_X11_fails_X90 : ∀ w ∈ wsX90, w ∈ wsX11_fails := fun _ h => List.mem_cons_of_mem _ (List.mem_append_left _ (List.mem_append_left _ (List.mem_append_left _ (List.mem_append_left _ (List.mem_append_right _ h)))))
theorem zB_X11_fails_X40 : ∀ w ∈ wsX40, w ∈ wsX11_fails := fun _ h => List.mem_cons_of_mem _ (List.mem_append_left _ (List.mem_append_left _ (List.mem_append_right _ h)))
theorem zB_X11_fails_X20 : ∀ w ∈ wsX20, w ∈ wsX11_fails := fun _ h => List.mem_cons_of_mem _ (List.mem_append_left _ (List.mem_append_right _ h))
set_option maxRecDepth 100000 in
theorem ggX11_fails_X9_hasChoice : GoodIn wsX11_fails wsX9_hasChoice := goodIn_hd (goodIn_c zc_wsX11_fails_in [(0, 9)] rfl (by decide +kernel)) (goodIn_app (goodIn_app (goodIn_app (goodIn_c zc_wsX11_fails_in [(0, 10), (0, 11), (0, 12), (0, 13)] rfl (by decide +kernel)) (goodIn_sub zB_X11_fails_X90 zgw_X90)) (goodIn_sub zB_X11_fails_X40 zgw_X40)) (goodIn_sub zB_X11_fails_X20 zgw_X20))
set_option maxRecDepth 100000 in
theorem gX11_fails_X9_hasChoice : GoodIn wsX11_fails (wsV RX11 220 RX9 yX9_hasChoice wsX9_hasChoice) := goodIn_app (goodIn_r _ [6, 7, 8, 9] rfl (by decide +kernel)) ggX11_fails_X9_hasChoice
theorem zB_X11_fails_X70 : ∀ w ∈ wsX70, w ∈ wsX11_fails := fun _ h => List.mem_cons_of_mem _ (List.mem_append_left _ (List.mem_append_left _ (List.mem_append_left _ (List.mem_append_right _ h))))
theorem zB_X11_fails_X60 : ∀ w ∈ wsX60, w ∈ wsX11_fails := fun _ h => List.mem_cons_of_mem _ (List.mem_append_right _ h)
set_option maxRecDepth 100000 in
theorem ggX11_fails_X7_reckon : GoodIn wsX11_fails wsX7_reckon := goodIn_hd (goodIn_c zc_wsX11_fails_in [(0, 18)] rfl (by decide +kernel)) (goodIn_app (goodIn_app (goodIn_app (goodIn_app (goodIn_app (goodIn_app (goodIn_c zc_wsX11_fails_in [(0, 19), (0, 20), (0, 21), (0, 22), (0, 23), (1, 0), (1, 1), (1, 2), (1, 3), (0, 17), (1, 4), (1, 5), (1, 6), (1, 7), (1, 8), (1, 9), (1, 10), (1, 11), (1, 12), (1, 13), (1, 14), (0, 8), (1, 15), (0, 10)] rfl (by decide +kernel)) (goodIn_app (goodIn_c zc_wsX11_fails_in [(0, 11), (0, 12), (1, 16), (1, 17), (1, 18), (1, 19), (1, 20), (1, 21), (1, 22), (1, 23), (2, 0), (2, 1), (2, 2), (2, 3), (2, 4), (2, 5), (2, 6), (2, 7), (2, 8), (2, 9), (2, 10), (2, 11), (2, 12), (2, 13)] rfl (by decide +kernel)) (goodIn_app (goodIn_c zc_wsX11_fails_in [(2, 14), (2, 15), (2, 16), (2, 17), (2, 18), (2, 19), (2, 20), (2, 21), (2, 22), (2, 23), (3, 0), (3, 1), (3, 2), (3, 3), (3, 4), (3, 5), (3, 6), (3, 7), (3, 8), (3, 9), (3, 10), (3, 11), (3, 12), (3, 13)] rfl (by decide +kernel)) (goodIn_c zc_wsX11_fails_in [(3, 14), (3, 15), (3, 16), (3, 17), (3, 18), (3, 19), (3, 20), (3, 21), (3, 22), (3, 23), (4, 0)] rfl (by decide +kernel))))) (goodIn_sub zB_X11_fails_X70 zgw_X70)) (goodIn_sub zB_X11_fails_X90 zgw_X90)) (goodIn_sub zB_X11_fails_X40 zgw_X40)) (goodIn_sub zB_X11_fails_X20 zgw_X20)) (goodIn_sub zB_X11_fails_X60 zgw_X60))
set_option maxRecDepth 100000 in
theorem gX11_fails_X7_reckon : GoodIn wsX11_fails (wsV RX11 238 RX7 yX7_reckon wsX7_reckon) := goodIn_app (goodIn_r _ [15, 16, 17, 18] rfl (by decide +kernel)) ggX11_fails_X7_reckon
noncomputable def zc_wsX11_why : List (List Cond) := [wsX11_why_r1, wsX11_why_r2, wsX11_why_r3, wsX11_why_r4, wsX11_why_r5, wsX110, wsX90, wsX70, wsX40, wsX20, wsX60]
set_option maxRecDepth 20000 in
theorem zc_wsX11_why_in : ∀ l ∈ zc_wsX11_why, ∀ w ∈ l, w ∈ wsX11_why := by
  intro l hl
  unfold zc_wsX11_why at hl
  rcases List.mem_cons.mp hl with e | hl
  · rw [e]
    exact fun w h => List.mem_cons_of_mem _ (List.mem_append_left _ (List.mem_append_left _ (List.mem_append_left _ (List.mem_append_left _ (List.mem_append_left _ (List.mem_append_left _ (List.mem_append_left _ h)))))))
  rcases List.mem_cons.mp hl with e | hl
  · rw [e]
    exact fun w h => List.mem_cons_of_mem _ (List.mem_append_left _ (List.mem_append_left _ (List.mem_append_left _ (List.mem_append_left _ (List.mem_append_left _ (List.mem_append_left _ (List.mem_append_right _ (List.mem_append_left _ h))))))))
  rcases List.mem_cons.mp hl with e | hl
  · rw [e]
    exact fun w h => List.mem_cons_of_mem _ (List.mem_append_left _ (List.mem_append_left _ (List.mem_append_left _ (List.mem_append_left _ (List.mem_append_left _ (List.mem_append_left _ (List.mem_append_right _ (List.mem_append_right _ (List.mem_append_left _ h)))))))))
  rcases List.mem_cons.mp hl with e | hl
  · rw [e]
    exact fun w h => List.mem_cons_of_mem _ (List.mem_append_left _ (List.mem_append_left _ (List.mem_append_left _ (List.mem_append_left _ (List.mem_append_left _ (List.mem_append_left _ (List.mem_append_right _ (List.mem_append_right _ (List.mem_append_right _ (List.mem_append_left _ h))))))))))
  rcases List.mem_cons.mp hl with e | hl
  · rw [e]
    exact fun w h => List.mem_cons_of_mem _ (List.mem_append_left _ (List.mem_append_left _ (List.mem_append_left _ (List.mem_append_left _ (List.mem_append_left _ (List.mem_append_left _ (List.mem_append_right _ (List.mem_append_right _ (List.mem_append_right _ (List.mem_append_right _ h))))))))))
  rcases List.mem_cons.mp hl with e | hl
  · rw [e]
    exact fun w h => List.mem_cons_of_mem _ (List.mem_append_left _ (List.mem_append_left _ (List.mem_append_left _ (List.mem_append_left _ (List.mem_append_left _ (List.mem_append_right _ h))))))
  rcases List.mem_cons.mp hl with e | hl
  · rw [e]
    exact fun w h => List.mem_cons_of_mem _ (List.mem_append_left _ (List.mem_append_left _ (List.mem_append_left _ (List.mem_append_left _ (List.mem_append_right _ h)))))
  rcases List.mem_cons.mp hl with e | hl
  · rw [e]
    exact fun w h => List.mem_cons_of_mem _ (List.mem_append_left _ (List.mem_append_left _ (List.mem_append_left _ (List.mem_append_right _ h))))
  rcases List.mem_cons.mp hl with e | hl
  · rw [e]
    exact fun w h => List.mem_cons_of_mem _ (List.mem_append_left _ (List.mem_append_left _ (List.mem_append_right _ h)))
  rcases List.mem_cons.mp hl with e | hl
  · rw [e]
    exact fun w h => List.mem_cons_of_mem _ (List.mem_append_left _ (List.mem_append_right _ h))
  rcases List.mem_cons.mp hl with e | hl
  · rw [e]
    exact fun w h => List.mem_cons_of_mem _ (List.mem_append_right _ h)
  cases hl
theorem zB_X11_why_X90 : ∀ w ∈ wsX90, w ∈ wsX11_why := fun _ h => List.mem_cons_of_mem _ (List.mem_append_left _ (List.mem_append_left _ (List.mem_append_left _ (List.mem_append_left _ (List.mem_append_right _ h)))))
theorem zB_X11_why_X40 : ∀ w ∈ wsX40, w ∈ wsX11_why := fun _ h => List.mem_cons_of_mem _ (List.mem_append_left _ (List.mem_append_left _ (List.mem_append_right _ h)))
theorem zB_X11_why_X20 : ∀ w ∈ wsX20, w ∈ wsX11_why := fun _ h => List.mem_cons_of_mem _ (List.mem_append_left _ (List.mem_append_right _ h))
set_option maxRecDepth 100000 in
theorem ggX11_why_X9_hasChoice : GoodIn wsX11_why wsX9_hasChoice := goodIn_hd (goodIn_c zc_wsX11_why_in [(0, 9)] rfl (by decide +kernel)) (goodIn_app (goodIn_app (goodIn_app (goodIn_c zc_wsX11_why_in [(0, 10), (0, 11), (0, 12), (0, 13)] rfl (by decide +kernel)) (goodIn_sub zB_X11_why_X90 zgw_X90)) (goodIn_sub zB_X11_why_X40 zgw_X40)) (goodIn_sub zB_X11_why_X20 zgw_X20))
set_option maxRecDepth 100000 in
theorem gX11_why_X9_hasChoice : GoodIn wsX11_why (wsV RX11 220 RX9 yX9_hasChoice wsX9_hasChoice) := goodIn_app (goodIn_r _ [6, 7, 8, 9] rfl (by decide +kernel)) ggX11_why_X9_hasChoice
theorem zB_X11_why_X70 : ∀ w ∈ wsX70, w ∈ wsX11_why := fun _ h => List.mem_cons_of_mem _ (List.mem_append_left _ (List.mem_append_left _ (List.mem_append_left _ (List.mem_append_right _ h))))
theorem zB_X11_why_X60 : ∀ w ∈ wsX60, w ∈ wsX11_why := fun _ h => List.mem_cons_of_mem _ (List.mem_append_right _ h)
set_option maxRecDepth 100000 in
theorem ggX11_why_X7_reckon : GoodIn wsX11_why wsX7_reckon := goodIn_hd (goodIn_c zc_wsX11_why_in [(0, 18)] rfl (by decide +kernel)) (goodIn_app (goodIn_app (goodIn_app (goodIn_app (goodIn_app (goodIn_app (goodIn_c zc_wsX11_why_in [(0, 19), (0, 20), (0, 21), (0, 22), (0, 23), (1, 0), (1, 1), (1, 2), (1, 3), (0, 17), (1, 4), (1, 5), (1, 6), (1, 7), (1, 8), (1, 9), (1, 10), (1, 11), (1, 12), (1, 13), (1, 14), (0, 8), (1, 15), (0, 10)] rfl (by decide +kernel)) (goodIn_app (goodIn_c zc_wsX11_why_in [(0, 11), (0, 12), (1, 16), (1, 17), (1, 18), (1, 19), (1, 20), (1, 21), (1, 22), (1, 23), (2, 0), (2, 1), (2, 2), (2, 3), (2, 4), (2, 5), (2, 6), (2, 7), (2, 8), (2, 9), (2, 10), (2, 11), (2, 12), (2, 13)] rfl (by decide +kernel)) (goodIn_app (goodIn_c zc_wsX11_why_in [(2, 14), (2, 15), (2, 16), (2, 17), (2, 18), (2, 19), (2, 20), (2, 21), (2, 22), (2, 23), (3, 0), (3, 1), (3, 2), (3, 3), (3, 4), (3, 5), (3, 6), (3, 7), (3, 8), (3, 9), (3, 10), (3, 11), (3, 12), (3, 13)] rfl (by decide +kernel)) (goodIn_c zc_wsX11_why_in [(3, 14), (3, 15), (3, 16), (3, 17), (3, 18), (3, 19), (3, 20), (3, 21), (3, 22), (3, 23), (4, 0)] rfl (by decide +kernel))))) (goodIn_sub zB_X11_why_X70 zgw_X70)) (goodIn_sub zB_X11_why_X90 zgw_X90)) (goodIn_sub zB_X11_why_X40 zgw_X40)) (goodIn_sub zB_X11_why_X20 zgw_X20)) (goodIn_sub zB_X11_why_X60 zgw_X60))
set_option maxRecDepth 100000 in
theorem gX11_why_X7_reckon : GoodIn wsX11_why (wsV RX11 238 RX7 yX7_reckon wsX7_reckon) := goodIn_app (goodIn_r _ [15, 16, 17, 18] rfl (by decide +kernel)) ggX11_why_X7_reckon
noncomputable def zc_wsX11_error : List (List Cond) := [wsX11_error_r1, wsX11_error_r2, wsX11_error_r3, wsX11_error_r4, wsX11_error_r5, wsX110, wsX90, wsX70, wsX40, wsX20, wsX60]
set_option maxRecDepth 20000 in
theorem zc_wsX11_error_in : ∀ l ∈ zc_wsX11_error, ∀ w ∈ l, w ∈ wsX11_error := by
  intro l hl
  unfold zc_wsX11_error at hl
  rcases List.mem_cons.mp hl with e | hl
  · rw [e]
    exact fun w h => List.mem_cons_of_mem _ (List.mem_append_left _ (List.mem_append_left _ (List.mem_append_left _ (List.mem_append_left _ (List.mem_append_left _ (List.mem_append_left _ (List.mem_append_left _ h)))))))
  rcases List.mem_cons.mp hl with e | hl
  · rw [e]
    exact fun w h => List.mem_cons_of_mem _ (List.mem_append_left _ (List.mem_append_left _ (List.mem_append_left _ (List.mem_append_left _ (List.mem_append_left _ (List.mem_append_left _ (List.mem_append_right _ (List.mem_append_left _ h))))))))
  rcases List.mem_cons.mp hl with e | hl
  · rw [e]
    exact fun w h => List.mem_cons_of_mem _ (List.mem_append_left _ (List.mem_append_left _ (List.mem_append_left _ (List.mem_append_left _ (List.mem_append_left _ (List.mem_append_left _ (List.mem_append_right _ (List.mem_append_right _ (List.mem_append_left _ h)))))))))
  rcases List.mem_cons.mp hl with e | hl
  · rw [e]
    exact fun w h => List.mem_cons_of_mem _ (List.mem_append_left _ (List.mem_append_left _ (List.mem_append_left _ (List.mem_append_left _ (List.mem_append_left _ (List.mem_append_left _ (List.mem_append_right _ (List.mem_append_right _ (List.mem_append_right _ (List.mem_append_left _ h))))))))))
  rcases List.mem_cons.mp hl with e | hl
  · rw [e]
    exact fun w h => List.mem_cons_of_mem _ (List.mem_append_left _ (List.mem_append_left _ (List.mem_append_left _ (List.mem_append_left _ (List.mem_append_left _ (List.mem_append_left _ (List.mem_append_right _ (List.mem_append_right _ (List.mem_append_right _ (List.mem_append_right _ h))))))))))
  rcases List.mem_cons.mp hl with e | hl
  · rw [e]
    exact fun w h => List.mem_cons_of_mem _ (List.mem_append_left _ (List.mem_append_left _ (List.mem_append_left _ (List.mem_append_left _ (List.mem_append_left _ (List.mem_append_right _ h))))))
  rcases List.mem_cons.mp hl with e | hl
  · rw [e]
    exact fun w h => List.mem_cons_of_mem _ (List.mem_append_left _ (List.mem_append_left _ (List.mem_append_left _ (List.mem_append_left _ (List.mem_append_right _ h)))))
  rcases List.mem_cons.mp hl with e | hl
  · rw [e]
    exact fun w h => List.mem_cons_of_mem _ (List.mem_append_left _ (List.mem_append_left _ (List.mem_append_left _ (List.mem_append_right _ h))))
  rcases List.mem_cons.mp hl with e | hl
  · rw [e]
    exact fun w h => List.mem_cons_of_mem _ (List.mem_append_left _ (List.mem_append_left _ (List.mem_append_right _ h)))
  rcases List.mem_cons.mp hl with e | hl
  · rw [e]
    exact fun w h => List.mem_cons_of_mem _ (List.mem_append_left _ (List.mem_append_right _ h))
  rcases List.mem_cons.mp hl with e | hl
  · rw [e]
    exact fun w h => List.mem_cons_of_mem _ (List.mem_append_right _ h)
  cases hl
theorem zB_X11_error_X90 : ∀ w ∈ wsX90, w ∈ wsX11_error := fun _ h => List.mem_cons_of_mem _ (List.mem_append_left _ (List.mem_append_left _ (List.mem_append_left _ (List.mem_append_left _ (List.mem_append_right _ h)))))
theorem zB_X11_error_X40 : ∀ w ∈ wsX40, w ∈ wsX11_error := fun _ h => List.mem_cons_of_mem _ (List.mem_append_left _ (List.mem_append_left _ (List.mem_append_right _ h)))
theorem zB_X11_error_X20 : ∀ w ∈ wsX20, w ∈ wsX11_error := fun _ h => List.mem_cons_of_mem _ (List.mem_append_left _ (List.mem_append_right _ h))
set_option maxRecDepth 100000 in
theorem ggX11_error_X9_hasChoice : GoodIn wsX11_error wsX9_hasChoice := goodIn_hd (goodIn_c zc_wsX11_error_in [(0, 11)] rfl (by decide +kernel)) (goodIn_app (goodIn_app (goodIn_app (goodIn_c zc_wsX11_error_in [(0, 12), (0, 13), (0, 14), (0, 15)] rfl (by decide +kernel)) (goodIn_sub zB_X11_error_X90 zgw_X90)) (goodIn_sub zB_X11_error_X40 zgw_X40)) (goodIn_sub zB_X11_error_X20 zgw_X20))
set_option maxRecDepth 100000 in
theorem gX11_error_X9_hasChoice : GoodIn wsX11_error (wsV RX11 220 RX9 yX9_hasChoice wsX9_hasChoice) := goodIn_app (goodIn_r _ [8, 9, 10, 11] rfl (by decide +kernel)) ggX11_error_X9_hasChoice
set_option maxRecDepth 100000 in
theorem ggX11_error_X9_hasNumber : GoodIn wsX11_error wsX9_hasNumber := goodIn_hd (goodIn_c zc_wsX11_error_in [(0, 19)] rfl (by decide +kernel)) (goodIn_app (goodIn_app (goodIn_c zc_wsX11_error_in [(0, 12), (0, 13)] rfl (by decide +kernel)) (goodIn_sub zB_X11_error_X90 zgw_X90)) (goodIn_sub zB_X11_error_X40 zgw_X40))
set_option maxRecDepth 100000 in
theorem gX11_error_X9_hasNumber : GoodIn wsX11_error (wsV RX11 157 RX9 yX9_hasNumber wsX9_hasNumber) := goodIn_app (goodIn_r _ [17, 18, 19, 11] rfl (by decide +kernel)) ggX11_error_X9_hasNumber
theorem zB_X11_error_X70 : ∀ w ∈ wsX70, w ∈ wsX11_error := fun _ h => List.mem_cons_of_mem _ (List.mem_append_left _ (List.mem_append_left _ (List.mem_append_left _ (List.mem_append_right _ h))))
theorem zB_X11_error_X60 : ∀ w ∈ wsX60, w ∈ wsX11_error := fun _ h => List.mem_cons_of_mem _ (List.mem_append_right _ h)
set_option maxRecDepth 100000 in
theorem ggX11_error_X7_reckon : GoodIn wsX11_error wsX7_reckon := goodIn_hd (goodIn_c zc_wsX11_error_in [(1, 0)] rfl (by decide +kernel)) (goodIn_app (goodIn_app (goodIn_app (goodIn_app (goodIn_app (goodIn_app (goodIn_c zc_wsX11_error_in [(1, 1), (1, 2), (1, 3), (1, 4), (1, 5), (1, 6), (1, 7), (1, 8), (1, 9), (0, 23), (1, 10), (1, 11), (1, 12), (1, 13), (1, 14), (1, 15), (1, 16), (1, 17), (1, 18), (1, 19), (1, 20), (0, 10), (1, 21), (0, 12)] rfl (by decide +kernel)) (goodIn_app (goodIn_c zc_wsX11_error_in [(0, 13), (0, 14), (1, 22), (1, 23), (2, 0), (2, 1), (2, 2), (2, 3), (2, 4), (2, 5), (2, 6), (2, 7), (2, 8), (2, 9), (2, 10), (2, 11), (2, 12), (2, 13), (2, 14), (2, 15), (2, 16), (2, 17), (2, 18), (2, 19)] rfl (by decide +kernel)) (goodIn_app (goodIn_c zc_wsX11_error_in [(2, 20), (2, 21), (2, 22), (2, 23), (3, 0), (3, 1), (3, 2), (3, 3), (3, 4), (3, 5), (3, 6), (3, 7), (3, 8), (3, 9), (3, 10), (3, 11), (3, 12), (3, 13), (3, 14), (3, 15), (3, 16), (3, 17), (3, 18), (3, 19)] rfl (by decide +kernel)) (goodIn_c zc_wsX11_error_in [(3, 20), (3, 21), (3, 22), (3, 23), (4, 0), (4, 1), (4, 2), (4, 3), (0, 17), (0, 18), (0, 19)] rfl (by decide +kernel))))) (goodIn_sub zB_X11_error_X70 zgw_X70)) (goodIn_sub zB_X11_error_X90 zgw_X90)) (goodIn_sub zB_X11_error_X40 zgw_X40)) (goodIn_sub zB_X11_error_X20 zgw_X20)) (goodIn_sub zB_X11_error_X60 zgw_X60))
set_option maxRecDepth 100000 in
theorem gX11_error_X7_reckon : GoodIn wsX11_error (wsV RX11 238 RX7 yX7_reckon wsX7_reckon) := goodIn_app (goodIn_r _ [21, 22, 23, 24] rfl (by decide +kernel)) ggX11_error_X7_reckon
noncomputable def zc_wsX11_slack : List (List Cond) := [wsX11_slack_r1, wsX11_slack_r2, wsX11_slack_r3, wsX11_slack_r4, wsX11_slack_r5, wsX110, wsX90, wsX40, wsX70, wsX20, wsX60]
set_option maxRecDepth 20000 in
theorem zc_wsX11_slack_in : ∀ l ∈ zc_wsX11_slack, ∀ w ∈ l, w ∈ wsX11_slack := by
  intro l hl
  unfold zc_wsX11_slack at hl
  rcases List.mem_cons.mp hl with e | hl
  · rw [e]
    exact fun w h => List.mem_cons_of_mem _ (List.mem_append_left _ (List.mem_append_left _ (List.mem_append_left _ (List.mem_append_left _ (List.mem_append_left _ (List.mem_append_left _ (List.mem_append_left _ h)))))))
  rcases List.mem_cons.mp hl with e | hl
  · rw [e]
    exact fun w h => List.mem_cons_of_mem _ (List.mem_append_left _ (List.mem_append_left _ (List.mem_append_left _ (List.mem_append_left _ (List.mem_append_left _ (List.mem_append_left _ (List.mem_append_right _ (List.mem_append_left _ h))))))))
  rcases List.mem_cons.mp hl with e | hl
  · rw [e]
    exact fun w h => List.mem_cons_of_mem _ (List.mem_append_left _ (List.mem_append_left _ (List.mem_append_left _ (List.mem_append_left _ (List.mem_append_left _ (List.mem_append_left _ (List.mem_append_right _ (List.mem_append_right _ (List.mem_append_left _ h)))))))))
  rcases List.mem_cons.mp hl with e | hl
  · rw [e]
    exact fun w h => List.mem_cons_of_mem _ (List.mem_append_left _ (List.mem_append_left _ (List.mem_append_left _ (List.mem_append_left _ (List.mem_append_left _ (List.mem_append_left _ (List.mem_append_right _ (List.mem_append_right _ (List.mem_append_right _ (List.mem_append_left _ h))))))))))
  rcases List.mem_cons.mp hl with e | hl
  · rw [e]
    exact fun w h => List.mem_cons_of_mem _ (List.mem_append_left _ (List.mem_append_left _ (List.mem_append_left _ (List.mem_append_left _ (List.mem_append_left _ (List.mem_append_left _ (List.mem_append_right _ (List.mem_append_right _ (List.mem_append_right _ (List.mem_append_right _ h))))))))))
  rcases List.mem_cons.mp hl with e | hl
  · rw [e]
    exact fun w h => List.mem_cons_of_mem _ (List.mem_append_left _ (List.mem_append_left _ (List.mem_append_left _ (List.mem_append_left _ (List.mem_append_left _ (List.mem_append_right _ h))))))
  rcases List.mem_cons.mp hl with e | hl
  · rw [e]
    exact fun w h => List.mem_cons_of_mem _ (List.mem_append_left _ (List.mem_append_left _ (List.mem_append_left _ (List.mem_append_left _ (List.mem_append_right _ h)))))
  rcases List.mem_cons.mp hl with e | hl
  · rw [e]
    exact fun w h => List.mem_cons_of_mem _ (List.mem_append_left _ (List.mem_append_left _ (List.mem_append_left _ (List.mem_append_right _ h))))
  rcases List.mem_cons.mp hl with e | hl
  · rw [e]
    exact fun w h => List.mem_cons_of_mem _ (List.mem_append_left _ (List.mem_append_left _ (List.mem_append_right _ h)))
  rcases List.mem_cons.mp hl with e | hl
  · rw [e]
    exact fun w h => List.mem_cons_of_mem _ (List.mem_append_left _ (List.mem_append_right _ h))
  rcases List.mem_cons.mp hl with e | hl
  · rw [e]
    exact fun w h => List.mem_cons_of_mem _ (List.mem_append_right _ h)
  cases hl
theorem zB_X11_slack_X90 : ∀ w ∈ wsX90, w ∈ wsX11_slack := fun _ h => List.mem_cons_of_mem _ (List.mem_append_left _ (List.mem_append_left _ (List.mem_append_left _ (List.mem_append_left _ (List.mem_append_right _ h)))))
theorem zB_X11_slack_X40 : ∀ w ∈ wsX40, w ∈ wsX11_slack := fun _ h => List.mem_cons_of_mem _ (List.mem_append_left _ (List.mem_append_left _ (List.mem_append_left _ (List.mem_append_right _ h))))
set_option maxRecDepth 100000 in
theorem ggX11_slack_X9_isAnswer : GoodIn wsX11_slack wsX9_isAnswer := goodIn_hd (goodIn_c zc_wsX11_slack_in [(0, 10)] rfl (by decide +kernel)) (goodIn_app (goodIn_app (goodIn_c zc_wsX11_slack_in [(0, 11), (0, 12), (0, 13), (0, 14), (0, 15), (0, 9), (0, 16), (0, 17)] rfl (by decide +kernel)) (goodIn_sub zB_X11_slack_X90 zgw_X90)) (goodIn_sub zB_X11_slack_X40 zgw_X40))
set_option maxRecDepth 100000 in
theorem gX11_slack_X9_isAnswer : GoodIn wsX11_slack (wsV RX11 251 RX9 yX9_isAnswer wsX9_isAnswer) := goodIn_app (goodIn_r _ [7, 8, 9, 10] rfl (by decide +kernel)) ggX11_slack_X9_isAnswer
theorem zB_X11_slack_X110 : ∀ w ∈ wsX110, w ∈ wsX11_slack := fun _ h => List.mem_cons_of_mem _ (List.mem_append_left _ (List.mem_append_left _ (List.mem_append_left _ (List.mem_append_left _ (List.mem_append_left _ (List.mem_append_right _ h))))))
theorem zB_X11_slack_X20 : ∀ w ∈ wsX20, w ∈ wsX11_slack := fun _ h => List.mem_cons_of_mem _ (List.mem_append_left _ (List.mem_append_right _ h))
theorem zB_X11_slack_X70 : ∀ w ∈ wsX70, w ∈ wsX11_slack := fun _ h => List.mem_cons_of_mem _ (List.mem_append_left _ (List.mem_append_left _ (List.mem_append_right _ h)))
theorem zB_X11_slack_X60 : ∀ w ∈ wsX60, w ∈ wsX11_slack := fun _ h => List.mem_cons_of_mem _ (List.mem_append_right _ h)
set_option maxRecDepth 100000 in
theorem ggX11_slack_X11_handPasses : GoodIn wsX11_slack wsX11_handPasses := goodIn_hd (goodIn_c zc_wsX11_slack_in [(0, 22)] rfl (by decide +kernel)) (goodIn_app (goodIn_app (goodIn_app (goodIn_app (goodIn_app (goodIn_app (goodIn_app (goodIn_c zc_wsX11_slack_in [(0, 0), (0, 4), (0, 23), (1, 0), (1, 1), (1, 2), (1, 3), (0, 9), (1, 4), (0, 11), (0, 17), (1, 5), (1, 6), (1, 7), (1, 8), (1, 9), (1, 10), (1, 11), (1, 12), (1, 13), (1, 14), (1, 15), (1, 16), (1, 17)] rfl (by decide +kernel)) (goodIn_app (goodIn_c zc_wsX11_slack_in [(1, 18), (1, 19), (1, 20), (1, 21), (1, 22), (1, 23), (2, 0), (2, 1), (2, 2), (2, 3), (2, 4), (2, 5), (2, 6), (2, 7), (2, 8), (2, 9), (2, 10), (2, 11), (2, 12), (2, 13), (2, 14), (2, 15), (2, 16), (2, 17)] rfl (by decide +kernel)) (goodIn_app (goodIn_c zc_wsX11_slack_in [(2, 18), (2, 19), (2, 20), (2, 21), (2, 22), (2, 23), (3, 0), (3, 1), (3, 2), (3, 3), (3, 4), (3, 5), (3, 6), (3, 7), (3, 8), (0, 21), (3, 9), (3, 10), (3, 11), (3, 12), (3, 13), (3, 14), (3, 15), (3, 16)] rfl (by decide +kernel)) (goodIn_c zc_wsX11_slack_in [(3, 17), (3, 18), (3, 19), (3, 20), (3, 21), (3, 22), (3, 23), (4, 0), (4, 1), (4, 2), (4, 3), (4, 4), (4, 5), (4, 6), (4, 7), (4, 8), (0, 7), (0, 8), (0, 10), (0, 12), (0, 13), (0, 14), (0, 15), (0, 16)] rfl (by decide +kernel))))) (goodIn_sub zB_X11_slack_X110 zgw_X110)) (goodIn_sub zB_X11_slack_X90 zgw_X90)) (goodIn_sub zB_X11_slack_X40 zgw_X40)) (goodIn_sub zB_X11_slack_X20 zgw_X20)) (goodIn_sub zB_X11_slack_X70 zgw_X70)) (goodIn_sub zB_X11_slack_X60 zgw_X60))
set_option maxRecDepth 100000 in
theorem gX11_slack_X11_handPasses : GoodIn wsX11_slack (wsV RX11 254 RX11 yX11_handPasses wsX11_handPasses) := goodIn_app (goodIn_r _ [19, 20, 21, 22] rfl (by decide +kernel)) ggX11_slack_X11_handPasses
noncomputable def zc_wsX11_widest : List (List Cond) := [wsX11_widest_r1, wsX11_widest_r2, wsX11_widest_r3, wsX11_widest_r4, wsX11_widest_r5, wsX11_widest_r6, wsX11_widest_r7, wsX110, wsX90, wsX40, wsX20, wsX70, wsX60]
set_option maxRecDepth 20000 in
theorem zc_wsX11_widest_in : ∀ l ∈ zc_wsX11_widest, ∀ w ∈ l, w ∈ wsX11_widest := by
  intro l hl
  unfold zc_wsX11_widest at hl
  rcases List.mem_cons.mp hl with e | hl
  · rw [e]
    exact fun w h => List.mem_cons_of_mem _ (List.mem_append_left _ (List.mem_append_left _ (List.mem_append_left _ (List.mem_append_left _ (List.mem_append_left _ (List.mem_append_left _ (List.mem_append_left _ h)))))))
  rcases List.mem_cons.mp hl with e | hl
  · rw [e]
    exact fun w h => List.mem_cons_of_mem _ (List.mem_append_left _ (List.mem_append_left _ (List.mem_append_left _ (List.mem_append_left _ (List.mem_append_left _ (List.mem_append_left _ (List.mem_append_right _ (List.mem_append_left _ h))))))))
  rcases List.mem_cons.mp hl with e | hl
  · rw [e]
    exact fun w h => List.mem_cons_of_mem _ (List.mem_append_left _ (List.mem_append_left _ (List.mem_append_left _ (List.mem_append_left _ (List.mem_append_left _ (List.mem_append_left _ (List.mem_append_right _ (List.mem_append_right _ (List.mem_append_left _ h)))))))))
  rcases List.mem_cons.mp hl with e | hl
  · rw [e]
    exact fun w h => List.mem_cons_of_mem _ (List.mem_append_left _ (List.mem_append_left _ (List.mem_append_left _ (List.mem_append_left _ (List.mem_append_left _ (List.mem_append_left _ (List.mem_append_right _ (List.mem_append_right _ (List.mem_append_right _ (List.mem_append_left _ h))))))))))
  rcases List.mem_cons.mp hl with e | hl
  · rw [e]
    exact fun w h => List.mem_cons_of_mem _ (List.mem_append_left _ (List.mem_append_left _ (List.mem_append_left _ (List.mem_append_left _ (List.mem_append_left _ (List.mem_append_left _ (List.mem_append_right _ (List.mem_append_right _ (List.mem_append_right _ (List.mem_append_right _ (List.mem_append_left _ h)))))))))))
  rcases List.mem_cons.mp hl with e | hl
  · rw [e]
    exact fun w h => List.mem_cons_of_mem _ (List.mem_append_left _ (List.mem_append_left _ (List.mem_append_left _ (List.mem_append_left _ (List.mem_append_left _ (List.mem_append_left _ (List.mem_append_right _ (List.mem_append_right _ (List.mem_append_right _ (List.mem_append_right _ (List.mem_append_right _ (List.mem_append_left _ h))))))))))))
  rcases List.mem_cons.mp hl with e | hl
  · rw [e]
    exact fun w h => List.mem_cons_of_mem _ (List.mem_append_left _ (List.mem_append_left _ (List.mem_append_left _ (List.mem_append_left _ (List.mem_append_left _ (List.mem_append_left _ (List.mem_append_right _ (List.mem_append_right _ (List.mem_append_right _ (List.mem_append_right _ (List.mem_append_right _ (List.mem_append_right _ h))))))))))))
  rcases List.mem_cons.mp hl with e | hl
  · rw [e]
    exact fun w h => List.mem_cons_of_mem _ (List.mem_append_left _ (List.mem_append_left _ (List.mem_append_left _ (List.mem_append_left _ (List.mem_append_left _ (List.mem_append_right _ h))))))
  rcases List.mem_cons.mp hl with e | hl
  · rw [e]
    exact fun w h => List.mem_cons_of_mem _ (List.mem_append_left _ (List.mem_append_left _ (List.mem_append_left _ (List.mem_append_left _ (List.mem_append_right _ h)))))
  rcases List.mem_cons.mp hl with e | hl
  · rw [e]
    exact fun w h => List.mem_cons_of_mem _ (List.mem_append_left _ (List.mem_append_left _ (List.mem_append_left _ (List.mem_append_right _ h))))
  rcases List.mem_cons.mp hl with e | hl
  · rw [e]
    exact fun w h => List.mem_cons_of_mem _ (List.mem_append_left _ (List.mem_append_left _ (List.mem_append_right _ h)))
  rcases List.mem_cons.mp hl with e | hl
  · rw [e]
    exact fun w h => List.mem_cons_of_mem _ (List.mem_append_left _ (List.mem_append_right _ h))
  rcases List.mem_cons.mp hl with e | hl
  · rw [e]
    exact fun w h => List.mem_cons_of_mem _ (List.mem_append_right _ h)
  cases hl
theorem zB_X11_widest_X90 : ∀ w ∈ wsX90, w ∈ wsX11_widest := fun _ h => List.mem_cons_of_mem _ (List.mem_append_left _ (List.mem_append_left _ (List.mem_append_left _ (List.mem_append_left _ (List.mem_append_right _ h)))))
theorem zB_X11_widest_X40 : ∀ w ∈ wsX40, w ∈ wsX11_widest := fun _ h => List.mem_cons_of_mem _ (List.mem_append_left _ (List.mem_append_left _ (List.mem_append_left _ (List.mem_append_right _ h))))
set_option maxRecDepth 100000 in
theorem ggX11_widest_X9_isInput : GoodIn wsX11_widest wsX9_isInput := goodIn_hd (goodIn_c zc_wsX11_widest_in [(0, 6)] rfl (by decide +kernel)) (goodIn_app (goodIn_app (goodIn_c zc_wsX11_widest_in [(0, 7), (0, 8), (0, 9), (0, 10), (0, 11), (0, 5), (0, 12), (0, 13)] rfl (by decide +kernel)) (goodIn_sub zB_X11_widest_X90 zgw_X90)) (goodIn_sub zB_X11_widest_X40 zgw_X40))
set_option maxRecDepth 100000 in
theorem gX11_widest_X9_isInput : GoodIn wsX11_widest (wsV RX11 257 RX9 yX9_isInput wsX9_isInput) := goodIn_app (goodIn_r _ [3, 4, 5, 6] rfl (by decide +kernel)) ggX11_widest_X9_isInput
theorem zB_X11_widest_X110 : ∀ w ∈ wsX110, w ∈ wsX11_widest := fun _ h => List.mem_cons_of_mem _ (List.mem_append_left _ (List.mem_append_left _ (List.mem_append_left _ (List.mem_append_left _ (List.mem_append_left _ (List.mem_append_right _ h))))))
theorem zB_X11_widest_X20 : ∀ w ∈ wsX20, w ∈ wsX11_widest := fun _ h => List.mem_cons_of_mem _ (List.mem_append_left _ (List.mem_append_left _ (List.mem_append_right _ h)))
theorem zB_X11_widest_X70 : ∀ w ∈ wsX70, w ∈ wsX11_widest := fun _ h => List.mem_cons_of_mem _ (List.mem_append_left _ (List.mem_append_right _ h))
theorem zB_X11_widest_X60 : ∀ w ∈ wsX60, w ∈ wsX11_widest := fun _ h => List.mem_cons_of_mem _ (List.mem_append_right _ h)
set_option maxRecDepth 100000 in
theorem ggX11_widest_X11_handPasses : GoodIn wsX11_widest wsX11_handPasses := goodIn_hd (goodIn_c zc_wsX11_widest_in [(0, 18)] rfl (by decide +kernel)) (goodIn_app (goodIn_app (goodIn_app (goodIn_app (goodIn_app (goodIn_app (goodIn_app (goodIn_c zc_wsX11_widest_in [(0, 0), (0, 19), (0, 20), (0, 21), (0, 22), (0, 23), (1, 0), (0, 5), (1, 1), (0, 7), (0, 13), (1, 2), (1, 3), (1, 4), (1, 5), (1, 6), (1, 7), (1, 8), (1, 9), (1, 10), (1, 11), (1, 12), (1, 13), (1, 14)] rfl (by decide +kernel)) (goodIn_app (goodIn_c zc_wsX11_widest_in [(1, 15), (1, 16), (1, 17), (1, 18), (1, 19), (1, 20), (1, 21), (1, 22), (1, 23), (2, 0), (2, 1), (2, 2), (2, 3), (2, 4), (2, 5), (2, 6), (2, 7), (2, 8), (2, 9), (2, 10), (2, 11), (2, 12), (2, 13), (2, 14)] rfl (by decide +kernel)) (goodIn_app (goodIn_c zc_wsX11_widest_in [(2, 15), (2, 16), (2, 17), (2, 18), (2, 19), (2, 20), (2, 21), (2, 22), (2, 23), (3, 0), (3, 1), (3, 2), (3, 3), (3, 4), (3, 5), (0, 17), (3, 6), (3, 7), (3, 8), (3, 9), (3, 10), (3, 11), (3, 12), (3, 13)] rfl (by decide +kernel)) (goodIn_c zc_wsX11_widest_in [(3, 14), (3, 15), (3, 16), (3, 17), (3, 18), (3, 19), (3, 20), (3, 21), (3, 22), (3, 23), (4, 0), (4, 1), (4, 2), (4, 3), (4, 4), (4, 5), (4, 6), (4, 7), (4, 8), (4, 9), (0, 9), (0, 10), (0, 11), (0, 12)] rfl (by decide +kernel))))) (goodIn_sub zB_X11_widest_X110 zgw_X110)) (goodIn_sub zB_X11_widest_X90 zgw_X90)) (goodIn_sub zB_X11_widest_X40 zgw_X40)) (goodIn_sub zB_X11_widest_X20 zgw_X20)) (goodIn_sub zB_X11_widest_X70 zgw_X70)) (goodIn_sub zB_X11_widest_X60 zgw_X60))
set_option maxRecDepth 100000 in
theorem gX11_widest_X11_handPasses : GoodIn wsX11_widest (wsV RX11 254 RX11 yX11_handPasses wsX11_handPasses) := goodIn_app (goodIn_r _ [15, 16, 17, 18] rfl (by decide +kernel)) ggX11_widest_X11_handPasses
set_option maxRecDepth 100000 in
theorem ggX11_widest_X11_passesLonger : GoodIn wsX11_widest wsX11_passesLonger := goodIn_hd (goodIn_c zc_wsX11_widest_in [(4, 13)] rfl (by decide +kernel)) (goodIn_app (goodIn_app (goodIn_app (goodIn_app (goodIn_app (goodIn_app (goodIn_app (goodIn_c zc_wsX11_widest_in [(4, 14), (0, 0), (4, 15), (4, 16), (0, 21), (4, 17), (4, 18), (4, 19), (3, 10), (4, 20), (4, 21), (3, 15), (3, 16), (4, 22), (4, 23), (5, 0), (5, 1), (5, 2), (5, 3), (5, 4), (5, 5), (5, 6), (1, 22), (5, 7)] rfl (by decide +kernel)) (goodIn_app (goodIn_c zc_wsX11_widest_in [(5, 8), (5, 9), (5, 10), (5, 11), (3, 18), (2, 18), (2, 19), (2, 20), (2, 21), (2, 22), (2, 23), (3, 19), (3, 1), (3, 2), (3, 3), (3, 4), (5, 12), (5, 13), (5, 14), (5, 15), (5, 16), (0, 17), (5, 17), (5, 18)] rfl (by decide +kernel)) (goodIn_app (goodIn_c zc_wsX11_widest_in [(5, 19), (5, 20), (1, 21), (1, 23), (5, 21), (5, 22), (5, 23), (6, 0), (6, 1), (6, 2), (6, 3), (6, 4), (6, 5), (6, 6), (6, 7), (6, 8), (3, 17), (6, 9), (6, 10), (6, 11), (6, 12), (6, 13), (6, 14), (6, 15)] rfl (by decide +kernel)) (goodIn_app (goodIn_c zc_wsX11_widest_in [(6, 16), (6, 17), (6, 18), (4, 2), (4, 3), (4, 4), (3, 12), (3, 13), (3, 14), (6, 19), (6, 20), (6, 21), (6, 22), (1, 4), (1, 5), (1, 6), (1, 7), (1, 8), (1, 9), (1, 10), (1, 11), (1, 12), (1, 13), (1, 14)] rfl (by decide +kernel)) (goodIn_app (goodIn_c zc_wsX11_widest_in [(1, 15), (1, 16), (1, 17), (1, 18), (1, 19), (1, 20), (2, 0), (2, 1), (2, 2), (2, 3), (2, 4), (0, 5), (2, 5), (0, 7), (0, 13), (1, 2), (2, 6), (2, 7), (2, 8), (2, 9), (2, 10), (2, 11), (2, 12), (2, 13)] rfl (by decide +kernel)) (goodIn_app (goodIn_c zc_wsX11_widest_in [(2, 14), (2, 15), (2, 16), (2, 17), (3, 0), (3, 5), (3, 6), (3, 7), (3, 8), (3, 9), (3, 11), (3, 20), (3, 21), (3, 22), (3, 23), (4, 0), (4, 1), (4, 5), (4, 6), (4, 7), (4, 8), (4, 9), (0, 9), (0, 10)] rfl (by decide +kernel)) (goodIn_c zc_wsX11_widest_in [(0, 11), (0, 12)] rfl (by decide +kernel)))))))) (goodIn_sub zB_X11_widest_X110 zgw_X110)) (goodIn_sub zB_X11_widest_X90 zgw_X90)) (goodIn_sub zB_X11_widest_X40 zgw_X40)) (goodIn_sub zB_X11_widest_X60 zgw_X60)) (goodIn_sub zB_X11_widest_X70 zgw_X70)) (goodIn_sub zB_X11_widest_X20 zgw_X20))
set_option maxRecDepth 100000 in
theorem gX11_widest_X11_passesLonger : GoodIn wsX11_widest (wsV RX11 261 RX11 yX11_passesLonger wsX11_passesLonger) := goodIn_app (goodIn_r _ [107, 108, 109, 18] rfl (by decide +kernel)) ggX11_widest_X11_passesLonger
noncomputable def zc_wsX11_blame : List (List Cond) := [wsX11_blame_r1, wsX11_blame_r2, wsX11_blame_r3, wsX11_blame_r4, wsX11_blame_r5, wsX11_blame_r6, wsX110, wsX90, wsX20, wsX70, wsX40, wsX60]
set_option maxRecDepth 20000 in
theorem zc_wsX11_blame_in : ∀ l ∈ zc_wsX11_blame, ∀ w ∈ l, w ∈ wsX11_blame := by
  intro l hl
  unfold zc_wsX11_blame at hl
  rcases List.mem_cons.mp hl with e | hl
  · rw [e]
    exact fun w h => List.mem_cons_of_mem _ (List.mem_append_left _ (List.mem_append_left _ (List.mem_append_left _ (List.mem_append_left _ (List.mem_append_left _ (List.mem_append_left _ (List.mem_append_left _ h)))))))
  rcases List.mem_cons.mp hl with e | hl
  · rw [e]
    exact fun w h => List.mem_cons_of_mem _ (List.mem_append_left _ (List.mem_append_left _ (List.mem_append_left _ (List.mem_append_left _ (List.mem_append_left _ (List.mem_append_left _ (List.mem_append_right _ (List.mem_append_left _ h))))))))
  rcases List.mem_cons.mp hl with e | hl
  · rw [e]
    exact fun w h => List.mem_cons_of_mem _ (List.mem_append_left _ (List.mem_append_left _ (List.mem_append_left _ (List.mem_append_left _ (List.mem_append_left _ (List.mem_append_left _ (List.mem_append_right _ (List.mem_append_right _ (List.mem_append_left _ h)))))))))
  rcases List.mem_cons.mp hl with e | hl
  · rw [e]
    exact fun w h => List.mem_cons_of_mem _ (List.mem_append_left _ (List.mem_append_left _ (List.mem_append_left _ (List.mem_append_left _ (List.mem_append_left _ (List.mem_append_left _ (List.mem_append_right _ (List.mem_append_right _ (List.mem_append_right _ (List.mem_append_left _ h))))))))))
  rcases List.mem_cons.mp hl with e | hl
  · rw [e]
    exact fun w h => List.mem_cons_of_mem _ (List.mem_append_left _ (List.mem_append_left _ (List.mem_append_left _ (List.mem_append_left _ (List.mem_append_left _ (List.mem_append_left _ (List.mem_append_right _ (List.mem_append_right _ (List.mem_append_right _ (List.mem_append_right _ (List.mem_append_left _ h)))))))))))
  rcases List.mem_cons.mp hl with e | hl
  · rw [e]
    exact fun w h => List.mem_cons_of_mem _ (List.mem_append_left _ (List.mem_append_left _ (List.mem_append_left _ (List.mem_append_left _ (List.mem_append_left _ (List.mem_append_left _ (List.mem_append_right _ (List.mem_append_right _ (List.mem_append_right _ (List.mem_append_right _ (List.mem_append_right _ h)))))))))))
  rcases List.mem_cons.mp hl with e | hl
  · rw [e]
    exact fun w h => List.mem_cons_of_mem _ (List.mem_append_left _ (List.mem_append_left _ (List.mem_append_left _ (List.mem_append_left _ (List.mem_append_left _ (List.mem_append_right _ h))))))
  rcases List.mem_cons.mp hl with e | hl
  · rw [e]
    exact fun w h => List.mem_cons_of_mem _ (List.mem_append_left _ (List.mem_append_left _ (List.mem_append_left _ (List.mem_append_left _ (List.mem_append_right _ h)))))
  rcases List.mem_cons.mp hl with e | hl
  · rw [e]
    exact fun w h => List.mem_cons_of_mem _ (List.mem_append_left _ (List.mem_append_left _ (List.mem_append_left _ (List.mem_append_right _ h))))
  rcases List.mem_cons.mp hl with e | hl
  · rw [e]
    exact fun w h => List.mem_cons_of_mem _ (List.mem_append_left _ (List.mem_append_left _ (List.mem_append_right _ h)))
  rcases List.mem_cons.mp hl with e | hl
  · rw [e]
    exact fun w h => List.mem_cons_of_mem _ (List.mem_append_left _ (List.mem_append_right _ h))
  rcases List.mem_cons.mp hl with e | hl
  · rw [e]
    exact fun w h => List.mem_cons_of_mem _ (List.mem_append_right _ h)
  cases hl
theorem zB_X11_blame_X90 : ∀ w ∈ wsX90, w ∈ wsX11_blame := fun _ h => List.mem_cons_of_mem _ (List.mem_append_left _ (List.mem_append_left _ (List.mem_append_left _ (List.mem_append_left _ (List.mem_append_right _ h)))))
theorem zB_X11_blame_X40 : ∀ w ∈ wsX40, w ∈ wsX11_blame := fun _ h => List.mem_cons_of_mem _ (List.mem_append_left _ (List.mem_append_right _ h))
set_option maxRecDepth 100000 in
theorem ggX11_blame_X9_isAnswer : GoodIn wsX11_blame wsX9_isAnswer := goodIn_hd (goodIn_c zc_wsX11_blame_in [(0, 14)] rfl (by decide +kernel)) (goodIn_app (goodIn_app (goodIn_c zc_wsX11_blame_in [(0, 15), (0, 16), (0, 17), (0, 18), (0, 19), (0, 13), (0, 20), (0, 21)] rfl (by decide +kernel)) (goodIn_sub zB_X11_blame_X90 zgw_X90)) (goodIn_sub zB_X11_blame_X40 zgw_X40))
set_option maxRecDepth 100000 in
theorem gX11_blame_X9_isAnswer : GoodIn wsX11_blame (wsV RX11 251 RX9 yX9_isAnswer wsX9_isAnswer) := goodIn_app (goodIn_r _ [11, 12, 13, 14] rfl (by decide +kernel)) ggX11_blame_X9_isAnswer
theorem zB_X11_blame_X20 : ∀ w ∈ wsX20, w ∈ wsX11_blame := fun _ h => List.mem_cons_of_mem _ (List.mem_append_left _ (List.mem_append_left _ (List.mem_append_left _ (List.mem_append_right _ h))))
set_option maxRecDepth 100000 in
theorem ggX11_blame_X9_isFree : GoodIn wsX11_blame wsX9_isFree := goodIn_hd (goodIn_c zc_wsX11_blame_in [(1, 1)] rfl (by decide +kernel)) (goodIn_app (goodIn_app (goodIn_app (goodIn_c zc_wsX11_blame_in [(1, 2), (1, 3), (0, 17), (0, 18), (0, 19), (0, 13), (0, 20), (0, 15), (0, 21), (1, 4), (1, 5), (1, 6), (1, 7), (1, 8), (1, 9), (1, 10)] rfl (by decide +kernel)) (goodIn_sub zB_X11_blame_X90 zgw_X90)) (goodIn_sub zB_X11_blame_X20 zgw_X20)) (goodIn_sub zB_X11_blame_X40 zgw_X40))
set_option maxRecDepth 100000 in
theorem gX11_blame_X9_isFree : GoodIn wsX11_blame (wsV RX11 228 RX9 yX9_isFree wsX9_isFree) := goodIn_app (goodIn_r _ [23, 24, 25, 14] rfl (by decide +kernel)) ggX11_blame_X9_isFree
theorem zB_X11_blame_X110 : ∀ w ∈ wsX110, w ∈ wsX11_blame := fun _ h => List.mem_cons_of_mem _ (List.mem_append_left _ (List.mem_append_left _ (List.mem_append_left _ (List.mem_append_left _ (List.mem_append_left _ (List.mem_append_right _ h))))))
theorem zB_X11_blame_X70 : ∀ w ∈ wsX70, w ∈ wsX11_blame := fun _ h => List.mem_cons_of_mem _ (List.mem_append_left _ (List.mem_append_left _ (List.mem_append_right _ h)))
theorem zB_X11_blame_X60 : ∀ w ∈ wsX60, w ∈ wsX11_blame := fun _ h => List.mem_cons_of_mem _ (List.mem_append_right _ h)
set_option maxRecDepth 100000 in
theorem ggX11_blame_X11_handPasses : GoodIn wsX11_blame wsX11_handPasses := goodIn_hd (goodIn_c zc_wsX11_blame_in [(1, 15)] rfl (by decide +kernel)) (goodIn_app (goodIn_app (goodIn_app (goodIn_app (goodIn_app (goodIn_app (goodIn_app (goodIn_c zc_wsX11_blame_in [(0, 0), (0, 8), (0, 7), (0, 2), (1, 16), (1, 17), (1, 18), (0, 13), (1, 19), (0, 15), (0, 21), (1, 2), (1, 20), (1, 21), (1, 22), (1, 23), (2, 0), (2, 1), (2, 2), (2, 3), (2, 4), (2, 5), (2, 6), (2, 7)] rfl (by decide +kernel)) (goodIn_app (goodIn_c zc_wsX11_blame_in [(2, 8), (2, 9), (2, 10), (2, 11), (2, 12), (2, 13), (2, 14), (2, 15), (2, 16), (2, 17), (2, 18), (2, 19), (2, 20), (2, 21), (2, 22), (1, 3), (2, 23), (3, 0), (3, 1), (3, 2), (3, 3), (3, 4), (3, 5), (3, 6)] rfl (by decide +kernel)) (goodIn_app (goodIn_c zc_wsX11_blame_in [(3, 7), (3, 8), (3, 9), (3, 10), (3, 11), (3, 12), (3, 13), (3, 14), (3, 15), (3, 16), (3, 17), (3, 18), (3, 19), (3, 20), (3, 21), (1, 14), (3, 22), (3, 23), (4, 0), (4, 1), (4, 2), (4, 3), (4, 4), (4, 5)] rfl (by decide +kernel)) (goodIn_c zc_wsX11_blame_in [(4, 6), (4, 7), (4, 8), (4, 9), (4, 10), (4, 11), (4, 12), (4, 13), (4, 14), (4, 15), (4, 16), (4, 17), (4, 18), (4, 19), (4, 20), (4, 21), (0, 11), (0, 12), (0, 14), (0, 16), (0, 17), (0, 18), (0, 19), (0, 20)] rfl (by decide +kernel))))) (goodIn_sub zB_X11_blame_X110 zgw_X110)) (goodIn_sub zB_X11_blame_X90 zgw_X90)) (goodIn_sub zB_X11_blame_X40 zgw_X40)) (goodIn_sub zB_X11_blame_X20 zgw_X20)) (goodIn_sub zB_X11_blame_X70 zgw_X70)) (goodIn_sub zB_X11_blame_X60 zgw_X60))
set_option maxRecDepth 100000 in
theorem gX11_blame_X11_handPasses : GoodIn wsX11_blame (wsV RX11 254 RX11 yX11_handPasses wsX11_handPasses) := goodIn_app (goodIn_r _ [36, 37, 38, 39] rfl (by decide +kernel)) ggX11_blame_X11_handPasses
set_option maxRecDepth 100000 in
theorem ggX11_blame_X11_copyChoice : GoodIn wsX11_blame wsX11_copyChoice := goodIn_r _ [121] rfl (by decide +kernel)
set_option maxRecDepth 100000 in
theorem gX11_blame_X11_copyChoice : GoodIn wsX11_blame (va_wsS RX11 265 yX11_copyChoice wsX11_copyChoice) := goodIn_app (goodIn_r _ [119, 120, 39] rfl (by decide +kernel)) ggX11_blame_X11_copyChoice
set_option maxRecDepth 100000 in
theorem ggX11_blame_X9_finestFormat : GoodIn wsX11_blame wsX9_finestFormat := goodIn_r _ [125, 76, 77, 142, 143, 144, 145, 146, 147, 148, 149, 150] rfl (by decide +kernel)
set_option maxRecDepth 100000 in
theorem gX11_blame_X9_finestFormat : GoodIn wsX11_blame (wsV RX11 269 RX9 yX9_finestFormat wsX9_finestFormat) := goodIn_app (goodIn_r _ [122, 123, 124, 14] rfl (by decide +kernel)) ggX11_blame_X9_finestFormat
set_option maxRecDepth 100000 in
theorem ggX11_blame_X7_reckon : GoodIn wsX11_blame wsX7_reckon := goodIn_hd (goodIn_c zc_wsX11_blame_in [(2, 1)] rfl (by decide +kernel)) (goodIn_app (goodIn_app (goodIn_app (goodIn_app (goodIn_app (goodIn_app (goodIn_c zc_wsX11_blame_in [(2, 2), (2, 3), (2, 4), (2, 5), (2, 6), (2, 7), (2, 8), (2, 9), (2, 10), (2, 0), (2, 11), (2, 12), (2, 13), (2, 14), (2, 15), (2, 16), (2, 17), (2, 18), (2, 19), (2, 20), (2, 21), (0, 13), (2, 22), (0, 15)] rfl (by decide +kernel)) (goodIn_app (goodIn_c zc_wsX11_blame_in [(0, 21), (1, 2), (1, 3), (2, 23), (3, 0), (3, 1), (3, 2), (3, 3), (3, 4), (3, 5), (3, 6), (3, 7), (3, 8), (3, 9), (3, 10), (3, 11), (3, 12), (3, 13), (3, 14), (3, 15), (3, 16), (3, 17), (3, 18), (3, 19)] rfl (by decide +kernel)) (goodIn_app (goodIn_c zc_wsX11_blame_in [(3, 20), (3, 21), (1, 14), (3, 22), (3, 23), (4, 0), (4, 1), (4, 2), (4, 3), (4, 4), (4, 5), (4, 6), (4, 7), (4, 8), (4, 9), (4, 10), (4, 11), (4, 12), (4, 13), (4, 14), (4, 15), (4, 16), (4, 17), (4, 18)] rfl (by decide +kernel)) (goodIn_c zc_wsX11_blame_in [(4, 19), (4, 20), (4, 21), (0, 11), (0, 12), (0, 14), (0, 16), (0, 17), (0, 18), (0, 19), (0, 20)] rfl (by decide +kernel))))) (goodIn_sub zB_X11_blame_X70 zgw_X70)) (goodIn_sub zB_X11_blame_X90 zgw_X90)) (goodIn_sub zB_X11_blame_X40 zgw_X40)) (goodIn_sub zB_X11_blame_X20 zgw_X20)) (goodIn_sub zB_X11_blame_X60 zgw_X60))
set_option maxRecDepth 100000 in
theorem gX11_blame_X7_reckon : GoodIn wsX11_blame (wsV RX11 238 RX7 yX7_reckon wsX7_reckon) := goodIn_app (goodIn_r _ [46, 47, 48, 49] rfl (by decide +kernel)) ggX11_blame_X7_reckon
noncomputable def zc_wsX11_cheapest : List (List Cond) := [wsX11_cheapest_r1, wsX11_cheapest_r2, wsX11_cheapest_r3, wsX11_cheapest_r4, wsX11_cheapest_r5, wsX11_cheapest_r6, wsX11_cheapest_r7, wsX110, wsX10, wsX90, wsX40, wsX20, wsX70, wsX60]
set_option maxRecDepth 20000 in
theorem zc_wsX11_cheapest_in : ∀ l ∈ zc_wsX11_cheapest, ∀ w ∈ l, w ∈ wsX11_cheapest := by
  intro l hl
  unfold zc_wsX11_cheapest at hl
  rcases List.mem_cons.mp hl with e | hl
  · rw [e]
    exact fun w h => List.mem_cons_of_mem _ (List.mem_append_left _ (List.mem_append_left _ (List.mem_append_left _ (List.mem_append_left _ (List.mem_append_left _ (List.mem_append_left _ (List.mem_append_left _ (List.mem_append_left _ h))))))))
  rcases List.mem_cons.mp hl with e | hl
  · rw [e]
    exact fun w h => List.mem_cons_of_mem _ (List.mem_append_left _ (List.mem_append_left _ (List.mem_append_left _ (List.mem_append_left _ (List.mem_append_left _ (List.mem_append_left _ (List.mem_append_left _ (List.mem_append_right _ (List.mem_append_left _ h)))))))))
  rcases List.mem_cons.mp hl with e | hl
  · rw [e]
    exact fun w h => List.mem_cons_of_mem _ (List.mem_append_left _ (List.mem_append_left _ (List.mem_append_left _ (List.mem_append_left _ (List.mem_append_left _ (List.mem_append_left _ (List.mem_append_left _ (List.mem_append_right _ (List.mem_append_right _ (List.mem_append_left _ h))))))))))
  rcases List.mem_cons.mp hl with e | hl
  · rw [e]
    exact fun w h => List.mem_cons_of_mem _ (List.mem_append_left _ (List.mem_append_left _ (List.mem_append_left _ (List.mem_append_left _ (List.mem_append_left _ (List.mem_append_left _ (List.mem_append_left _ (List.mem_append_right _ (List.mem_append_right _ (List.mem_append_right _ (List.mem_append_left _ h)))))))))))
  rcases List.mem_cons.mp hl with e | hl
  · rw [e]
    exact fun w h => List.mem_cons_of_mem _ (List.mem_append_left _ (List.mem_append_left _ (List.mem_append_left _ (List.mem_append_left _ (List.mem_append_left _ (List.mem_append_left _ (List.mem_append_left _ (List.mem_append_right _ (List.mem_append_right _ (List.mem_append_right _ (List.mem_append_right _ (List.mem_append_left _ h))))))))))))
  rcases List.mem_cons.mp hl with e | hl
  · rw [e]
    exact fun w h => List.mem_cons_of_mem _ (List.mem_append_left _ (List.mem_append_left _ (List.mem_append_left _ (List.mem_append_left _ (List.mem_append_left _ (List.mem_append_left _ (List.mem_append_left _ (List.mem_append_right _ (List.mem_append_right _ (List.mem_append_right _ (List.mem_append_right _ (List.mem_append_right _ (List.mem_append_left _ h)))))))))))))
  rcases List.mem_cons.mp hl with e | hl
  · rw [e]
    exact fun w h => List.mem_cons_of_mem _ (List.mem_append_left _ (List.mem_append_left _ (List.mem_append_left _ (List.mem_append_left _ (List.mem_append_left _ (List.mem_append_left _ (List.mem_append_left _ (List.mem_append_right _ (List.mem_append_right _ (List.mem_append_right _ (List.mem_append_right _ (List.mem_append_right _ (List.mem_append_right _ h)))))))))))))
  rcases List.mem_cons.mp hl with e | hl
  · rw [e]
    exact fun w h => List.mem_cons_of_mem _ (List.mem_append_left _ (List.mem_append_left _ (List.mem_append_left _ (List.mem_append_left _ (List.mem_append_left _ (List.mem_append_left _ (List.mem_append_right _ h)))))))
  rcases List.mem_cons.mp hl with e | hl
  · rw [e]
    exact fun w h => List.mem_cons_of_mem _ (List.mem_append_left _ (List.mem_append_left _ (List.mem_append_left _ (List.mem_append_left _ (List.mem_append_left _ (List.mem_append_right _ h))))))
  rcases List.mem_cons.mp hl with e | hl
  · rw [e]
    exact fun w h => List.mem_cons_of_mem _ (List.mem_append_left _ (List.mem_append_left _ (List.mem_append_left _ (List.mem_append_left _ (List.mem_append_right _ h)))))
  rcases List.mem_cons.mp hl with e | hl
  · rw [e]
    exact fun w h => List.mem_cons_of_mem _ (List.mem_append_left _ (List.mem_append_left _ (List.mem_append_left _ (List.mem_append_right _ h))))
  rcases List.mem_cons.mp hl with e | hl
  · rw [e]
    exact fun w h => List.mem_cons_of_mem _ (List.mem_append_left _ (List.mem_append_left _ (List.mem_append_right _ h)))
  rcases List.mem_cons.mp hl with e | hl
  · rw [e]
    exact fun w h => List.mem_cons_of_mem _ (List.mem_append_left _ (List.mem_append_right _ h))
  rcases List.mem_cons.mp hl with e | hl
  · rw [e]
    exact fun w h => List.mem_cons_of_mem _ (List.mem_append_right _ h)
  cases hl
theorem zB_X11_cheapest_X90 : ∀ w ∈ wsX90, w ∈ wsX11_cheapest := fun _ h => List.mem_cons_of_mem _ (List.mem_append_left _ (List.mem_append_left _ (List.mem_append_left _ (List.mem_append_left _ (List.mem_append_right _ h)))))
theorem zB_X11_cheapest_X40 : ∀ w ∈ wsX40, w ∈ wsX11_cheapest := fun _ h => List.mem_cons_of_mem _ (List.mem_append_left _ (List.mem_append_left _ (List.mem_append_left _ (List.mem_append_right _ h))))
theorem zB_X11_cheapest_X20 : ∀ w ∈ wsX20, w ∈ wsX11_cheapest := fun _ h => List.mem_cons_of_mem _ (List.mem_append_left _ (List.mem_append_left _ (List.mem_append_right _ h)))
theorem zB_X11_cheapest_X10 : ∀ w ∈ wsX10, w ∈ wsX11_cheapest := fun _ h => List.mem_cons_of_mem _ (List.mem_append_left _ (List.mem_append_left _ (List.mem_append_left _ (List.mem_append_left _ (List.mem_append_left _ (List.mem_append_right _ h))))))
theorem zB_X11_cheapest_X70 : ∀ w ∈ wsX70, w ∈ wsX11_cheapest := fun _ h => List.mem_cons_of_mem _ (List.mem_append_left _ (List.mem_append_right _ h))
theorem zB_X11_cheapest_X60 : ∀ w ∈ wsX60, w ∈ wsX11_cheapest := fun _ h => List.mem_cons_of_mem _ (List.mem_append_right _ h)
set_option maxRecDepth 100000 in
theorem ggX11_cheapest_X1_search : GoodIn wsX11_cheapest wsX1_search := goodIn_hd (goodIn_c zc_wsX11_cheapest_in [(0, 9)] rfl (by decide +kernel)) (goodIn_app (goodIn_app (goodIn_app (goodIn_app (goodIn_app (goodIn_app (goodIn_app (goodIn_c zc_wsX11_cheapest_in [(0, 10), (0, 11), (0, 12), (0, 13), (0, 14), (0, 15), (0, 16), (0, 17), (0, 18), (0, 19), (0, 20), (0, 21), (0, 22), (0, 23), (1, 0), (1, 1), (1, 2), (1, 3), (1, 4), (0, 8), (1, 5), (1, 6), (1, 7), (1, 8)] rfl (by decide +kernel)) (goodIn_app (goodIn_c zc_wsX11_cheapest_in [(1, 9), (1, 10), (1, 11), (1, 12), (1, 13), (1, 14), (1, 15), (1, 16), (1, 17), (1, 18), (1, 19), (1, 20), (1, 21), (1, 22), (1, 23), (2, 0), (2, 1), (2, 2), (2, 3), (2, 4), (2, 5), (2, 6), (2, 7), (2, 8)] rfl (by decide +kernel)) (goodIn_app (goodIn_c zc_wsX11_cheapest_in [(2, 9), (2, 10), (2, 11), (2, 12), (2, 13), (2, 14), (2, 15), (2, 16), (2, 17), (2, 18), (2, 19), (2, 20), (2, 21), (2, 22), (2, 23), (3, 0), (3, 1), (3, 2), (3, 3), (3, 4), (3, 5), (3, 6), (3, 7), (3, 8)] rfl (by decide +kernel)) (goodIn_app (goodIn_c zc_wsX11_cheapest_in [(3, 9), (3, 10), (3, 11), (3, 12), (3, 13), (3, 14), (3, 15), (3, 16), (3, 17), (3, 18), (3, 19), (3, 20), (3, 21), (3, 22), (3, 23), (4, 0), (4, 1), (4, 2), (4, 3), (4, 4), (4, 5), (4, 6), (4, 7), (4, 8)] rfl (by decide +kernel)) (goodIn_app (goodIn_c zc_wsX11_cheapest_in [(4, 9), (4, 10), (4, 11), (4, 12), (4, 13), (4, 14), (4, 15), (4, 16), (4, 17), (4, 18), (4, 19), (4, 20), (4, 21), (4, 22), (4, 23), (5, 0), (5, 1), (5, 2), (5, 3), (5, 4), (5, 5), (5, 6), (5, 7), (5, 8)] rfl (by decide +kernel)) (goodIn_app (goodIn_c zc_wsX11_cheapest_in [(5, 9), (5, 10), (5, 11), (5, 12), (5, 13), (5, 14), (5, 15), (5, 16), (5, 17), (5, 18), (5, 19), (5, 20), (5, 21), (5, 22), (5, 23), (6, 0), (6, 1), (6, 2), (6, 3), (6, 4), (6, 5), (6, 6), (6, 7), (6, 8)] rfl (by decide +kernel)) (goodIn_c zc_wsX11_cheapest_in [(6, 9), (6, 10), (6, 11), (6, 12), (6, 13), (6, 14), (6, 15), (6, 16)] rfl (by decide +kernel)))))))) (goodIn_sub zB_X11_cheapest_X90 zgw_X90)) (goodIn_sub zB_X11_cheapest_X40 zgw_X40)) (goodIn_sub zB_X11_cheapest_X20 zgw_X20)) (goodIn_sub zB_X11_cheapest_X10 zgw_X10)) (goodIn_sub zB_X11_cheapest_X70 zgw_X70)) (goodIn_sub zB_X11_cheapest_X60 zgw_X60))
set_option maxRecDepth 100000 in
theorem gX11_cheapest_X1_search : GoodIn wsX11_cheapest (wsV RX11 273 RX1 yX1_search wsX1_search) := goodIn_app (goodIn_r _ [6, 7, 8, 9] rfl (by decide +kernel)) ggX11_cheapest_X1_search
set_option maxRecDepth 100000 in
theorem ggX11_cheapest_X1_unfold : GoodIn wsX11_cheapest wsX1_unfold := goodIn_hd (goodIn_c zc_wsX11_cheapest_in [(2, 6)] rfl (by decide +kernel)) (goodIn_app (goodIn_app (goodIn_c zc_wsX11_cheapest_in [(0, 12), (2, 7), (2, 8), (1, 6)] rfl (by decide +kernel)) (goodIn_sub zB_X11_cheapest_X90 zgw_X90)) (goodIn_sub zB_X11_cheapest_X20 zgw_X20))
set_option maxRecDepth 100000 in
theorem gX11_cheapest_X1_unfold : GoodIn wsX11_cheapest (va_wsS RX11 283 yX1_unfold wsX1_unfold) := goodIn_app (goodIn_r _ [162, 54, 9] rfl (by decide +kernel)) ggX11_cheapest_X1_unfold
set_option maxRecDepth 100000 in
theorem ggX11_cheapest_X9_hasNumber : GoodIn wsX11_cheapest wsX9_hasNumber := goodIn_hd (goodIn_c zc_wsX11_cheapest_in [(5, 17)] rfl (by decide +kernel)) (goodIn_app (goodIn_app (goodIn_c zc_wsX11_cheapest_in [(0, 22), (0, 23)] rfl (by decide +kernel)) (goodIn_sub zB_X11_cheapest_X90 zgw_X90)) (goodIn_sub zB_X11_cheapest_X40 zgw_X40))
set_option maxRecDepth 100000 in
theorem gX11_cheapest_X9_hasNumber : GoodIn wsX11_cheapest (wsV RX11 157 RX9 yX9_hasNumber wsX9_hasNumber) := goodIn_app (goodIn_r _ [163, 136, 137, 21] rfl (by decide +kernel)) ggX11_cheapest_X9_hasNumber
set_option maxRecDepth 100000 in
theorem ggX11_cheapest_X9_formatOf : GoodIn wsX11_cheapest wsX9_formatOf := goodIn_hd (goodIn_c zc_wsX11_cheapest_in [(3, 10)] rfl (by decide +kernel)) (goodIn_app (goodIn_app (goodIn_app (goodIn_c zc_wsX11_cheapest_in [(0, 22), (0, 23), (1, 0), (3, 11)] rfl (by decide +kernel)) (goodIn_sub zB_X11_cheapest_X90 zgw_X90)) (goodIn_sub zB_X11_cheapest_X40 zgw_X40)) (goodIn_sub zB_X11_cheapest_X20 zgw_X20))
set_option maxRecDepth 100000 in
theorem gX11_cheapest_X9_formatOf : GoodIn wsX11_cheapest (wsV RX11 224 RX9 yX9_formatOf wsX9_formatOf) := goodIn_app (goodIn_r _ [164, 81, 82, 21] rfl (by decide +kernel)) ggX11_cheapest_X9_formatOf
noncomputable def zc_wsX11_passing : List (List Cond) := [wsX11_passing_r1, wsX11_passing_r2, wsX11_passing_r3, wsX11_passing_r4, wsX11_passing_r5, wsX11_passing_r6, wsX11_passing_r7, wsX110, wsX10, wsX90, wsX40, wsX20, wsX70, wsX60]
set_option maxRecDepth 20000 in
theorem zc_wsX11_passing_in : ∀ l ∈ zc_wsX11_passing, ∀ w ∈ l, w ∈ wsX11_passing := by
  intro l hl
  unfold zc_wsX11_passing at hl
  rcases List.mem_cons.mp hl with e | hl
  · rw [e]
    exact fun w h => List.mem_cons_of_mem _ (List.mem_append_left _ (List.mem_append_left _ (List.mem_append_left _ (List.mem_append_left _ (List.mem_append_left _ (List.mem_append_left _ (List.mem_append_left _ (List.mem_append_left _ h))))))))
  rcases List.mem_cons.mp hl with e | hl
  · rw [e]
    exact fun w h => List.mem_cons_of_mem _ (List.mem_append_left _ (List.mem_append_left _ (List.mem_append_left _ (List.mem_append_left _ (List.mem_append_left _ (List.mem_append_left _ (List.mem_append_left _ (List.mem_append_right _ (List.mem_append_left _ h)))))))))
  rcases List.mem_cons.mp hl with e | hl
  · rw [e]
    exact fun w h => List.mem_cons_of_mem _ (List.mem_append_left _ (List.mem_append_left _ (List.mem_append_left _ (List.mem_append_left _ (List.mem_append_left _ (List.mem_append_left _ (List.mem_append_left _ (List.mem_append_right _ (List.mem_append_right _ (List.mem_append_left _ h))))))))))
  rcases List.mem_cons.mp hl with e | hl
  · rw [e]
    exact fun w h => List.mem_cons_of_mem _ (List.mem_append_left _ (List.mem_append_left _ (List.mem_append_left _ (List.mem_append_left _ (List.mem_append_left _ (List.mem_append_left _ (List.mem_append_left _ (List.mem_append_right _ (List.mem_append_right _ (List.mem_append_right _ (List.mem_append_left _ h)))))))))))
  rcases List.mem_cons.mp hl with e | hl
  · rw [e]
    exact fun w h => List.mem_cons_of_mem _ (List.mem_append_left _ (List.mem_append_left _ (List.mem_append_left _ (List.mem_append_left _ (List.mem_append_left _ (List.mem_append_left _ (List.mem_append_left _ (List.mem_append_right _ (List.mem_append_right _ (List.mem_append_right _ (List.mem_append_right _ (List.mem_append_left _ h))))))))))))
  rcases List.mem_cons.mp hl with e | hl
  · rw [e]
    exact fun w h => List.mem_cons_of_mem _ (List.mem_append_left _ (List.mem_append_left _ (List.mem_append_left _ (List.mem_append_left _ (List.mem_append_left _ (List.mem_append_left _ (List.mem_append_left _ (List.mem_append_right _ (List.mem_append_right _ (List.mem_append_right _ (List.mem_append_right _ (List.mem_append_right _ (List.mem_append_left _ h)))))))))))))
  rcases List.mem_cons.mp hl with e | hl
  · rw [e]
    exact fun w h => List.mem_cons_of_mem _ (List.mem_append_left _ (List.mem_append_left _ (List.mem_append_left _ (List.mem_append_left _ (List.mem_append_left _ (List.mem_append_left _ (List.mem_append_left _ (List.mem_append_right _ (List.mem_append_right _ (List.mem_append_right _ (List.mem_append_right _ (List.mem_append_right _ (List.mem_append_right _ h)))))))))))))
  rcases List.mem_cons.mp hl with e | hl
  · rw [e]
    exact fun w h => List.mem_cons_of_mem _ (List.mem_append_left _ (List.mem_append_left _ (List.mem_append_left _ (List.mem_append_left _ (List.mem_append_left _ (List.mem_append_left _ (List.mem_append_right _ h)))))))
  rcases List.mem_cons.mp hl with e | hl
  · rw [e]
    exact fun w h => List.mem_cons_of_mem _ (List.mem_append_left _ (List.mem_append_left _ (List.mem_append_left _ (List.mem_append_left _ (List.mem_append_left _ (List.mem_append_right _ h))))))
  rcases List.mem_cons.mp hl with e | hl
  · rw [e]
    exact fun w h => List.mem_cons_of_mem _ (List.mem_append_left _ (List.mem_append_left _ (List.mem_append_left _ (List.mem_append_left _ (List.mem_append_right _ h)))))
  rcases List.mem_cons.mp hl with e | hl
  · rw [e]
    exact fun w h => List.mem_cons_of_mem _ (List.mem_append_left _ (List.mem_append_left _ (List.mem_append_left _ (List.mem_append_right _ h))))
  rcases List.mem_cons.mp hl with e | hl
  · rw [e]
    exact fun w h => List.mem_cons_of_mem _ (List.mem_append_left _ (List.mem_append_left _ (List.mem_append_right _ h)))
  rcases List.mem_cons.mp hl with e | hl
  · rw [e]
    exact fun w h => List.mem_cons_of_mem _ (List.mem_append_left _ (List.mem_append_right _ h))
  rcases List.mem_cons.mp hl with e | hl
  · rw [e]
    exact fun w h => List.mem_cons_of_mem _ (List.mem_append_right _ h)
  cases hl
theorem zB_X11_passing_X90 : ∀ w ∈ wsX90, w ∈ wsX11_passing := fun _ h => List.mem_cons_of_mem _ (List.mem_append_left _ (List.mem_append_left _ (List.mem_append_left _ (List.mem_append_left _ (List.mem_append_right _ h)))))
theorem zB_X11_passing_X40 : ∀ w ∈ wsX40, w ∈ wsX11_passing := fun _ h => List.mem_cons_of_mem _ (List.mem_append_left _ (List.mem_append_left _ (List.mem_append_left _ (List.mem_append_right _ h))))
theorem zB_X11_passing_X20 : ∀ w ∈ wsX20, w ∈ wsX11_passing := fun _ h => List.mem_cons_of_mem _ (List.mem_append_left _ (List.mem_append_left _ (List.mem_append_right _ h)))
theorem zB_X11_passing_X10 : ∀ w ∈ wsX10, w ∈ wsX11_passing := fun _ h => List.mem_cons_of_mem _ (List.mem_append_left _ (List.mem_append_left _ (List.mem_append_left _ (List.mem_append_left _ (List.mem_append_left _ (List.mem_append_right _ h))))))
theorem zB_X11_passing_X70 : ∀ w ∈ wsX70, w ∈ wsX11_passing := fun _ h => List.mem_cons_of_mem _ (List.mem_append_left _ (List.mem_append_right _ h))
theorem zB_X11_passing_X60 : ∀ w ∈ wsX60, w ∈ wsX11_passing := fun _ h => List.mem_cons_of_mem _ (List.mem_append_right _ h)
set_option maxRecDepth 100000 in
theorem ggX11_passing_X1_search : GoodIn wsX11_passing wsX1_search := goodIn_hd (goodIn_c zc_wsX11_passing_in [(0, 7)] rfl (by decide +kernel)) (goodIn_app (goodIn_app (goodIn_app (goodIn_app (goodIn_app (goodIn_app (goodIn_app (goodIn_c zc_wsX11_passing_in [(0, 8), (0, 9), (0, 10), (0, 11), (0, 12), (0, 13), (0, 14), (0, 15), (0, 16), (0, 17), (0, 18), (0, 19), (0, 20), (0, 21), (0, 22), (0, 23), (1, 0), (1, 1), (1, 2), (0, 6), (1, 3), (1, 4), (1, 5), (1, 6)] rfl (by decide +kernel)) (goodIn_app (goodIn_c zc_wsX11_passing_in [(1, 7), (1, 8), (1, 9), (1, 10), (1, 11), (1, 12), (1, 13), (1, 14), (1, 15), (1, 16), (1, 17), (1, 18), (1, 19), (1, 20), (1, 21), (1, 22), (1, 23), (2, 0), (2, 1), (2, 2), (2, 3), (2, 4), (2, 5), (2, 6)] rfl (by decide +kernel)) (goodIn_app (goodIn_c zc_wsX11_passing_in [(2, 7), (2, 8), (2, 9), (2, 10), (2, 11), (2, 12), (2, 13), (2, 14), (2, 15), (2, 16), (2, 17), (2, 18), (2, 19), (2, 20), (2, 21), (2, 22), (2, 23), (3, 0), (3, 1), (3, 2), (3, 3), (3, 4), (3, 5), (3, 6)] rfl (by decide +kernel)) (goodIn_app (goodIn_c zc_wsX11_passing_in [(3, 7), (3, 8), (3, 9), (3, 10), (3, 11), (3, 12), (3, 13), (3, 14), (3, 15), (3, 16), (3, 17), (3, 18), (3, 19), (3, 20), (3, 21), (3, 22), (3, 23), (4, 0), (4, 1), (4, 2), (4, 3), (4, 4), (4, 5), (4, 6)] rfl (by decide +kernel)) (goodIn_app (goodIn_c zc_wsX11_passing_in [(4, 7), (4, 8), (4, 9), (4, 10), (4, 11), (4, 12), (4, 13), (4, 14), (4, 15), (4, 16), (4, 17), (4, 18), (4, 19), (4, 20), (4, 21), (4, 22), (4, 23), (5, 0), (5, 1), (5, 2), (5, 3), (5, 4), (5, 5), (5, 6)] rfl (by decide +kernel)) (goodIn_app (goodIn_c zc_wsX11_passing_in [(5, 7), (5, 8), (5, 9), (5, 10), (5, 11), (5, 12), (5, 13), (5, 14), (5, 15), (5, 16), (5, 17), (5, 18), (5, 19), (5, 20), (5, 21), (5, 22), (5, 23), (6, 0), (6, 1), (6, 2), (6, 3), (6, 4), (6, 5), (6, 6)] rfl (by decide +kernel)) (goodIn_c zc_wsX11_passing_in [(6, 7), (6, 8), (6, 9), (6, 10), (6, 11), (6, 12), (6, 13), (6, 14)] rfl (by decide +kernel)))))))) (goodIn_sub zB_X11_passing_X90 zgw_X90)) (goodIn_sub zB_X11_passing_X40 zgw_X40)) (goodIn_sub zB_X11_passing_X20 zgw_X20)) (goodIn_sub zB_X11_passing_X10 zgw_X10)) (goodIn_sub zB_X11_passing_X70 zgw_X70)) (goodIn_sub zB_X11_passing_X60 zgw_X60))
set_option maxRecDepth 100000 in
theorem gX11_passing_X1_search : GoodIn wsX11_passing (wsV RX11 273 RX1 yX1_search wsX1_search) := goodIn_app (goodIn_r _ [4, 5, 6, 7] rfl (by decide +kernel)) ggX11_passing_X1_search
noncomputable def zc_wsX11_halves : List (List Cond) := [wsX11_halves_r1, wsX11_halves_r2, wsX11_halves_r3, wsX11_halves_r4, wsX11_halves_r5, wsX11_halves_r6, wsX11_halves_r7, wsX110, wsX30, wsX90, wsX40, wsX20, wsX70, wsX60]
set_option maxRecDepth 20000 in
theorem zc_wsX11_halves_in : ∀ l ∈ zc_wsX11_halves, ∀ w ∈ l, w ∈ wsX11_halves := by
  intro l hl
  unfold zc_wsX11_halves at hl
  rcases List.mem_cons.mp hl with e | hl
  · rw [e]
    exact fun w h => List.mem_cons_of_mem _ (List.mem_append_left _ (List.mem_append_left _ (List.mem_append_left _ (List.mem_append_left _ (List.mem_append_left _ (List.mem_append_left _ (List.mem_append_left _ (List.mem_append_left _ h))))))))
  rcases List.mem_cons.mp hl with e | hl
  · rw [e]
    exact fun w h => List.mem_cons_of_mem _ (List.mem_append_left _ (List.mem_append_left _ (List.mem_append_left _ (List.mem_append_left _ (List.mem_append_left _ (List.mem_append_left _ (List.mem_append_left _ (List.mem_append_right _ (List.mem_append_left _ h)))))))))
  rcases List.mem_cons.mp hl with e | hl
  · rw [e]
    exact fun w h => List.mem_cons_of_mem _ (List.mem_append_left _ (List.mem_append_left _ (List.mem_append_left _ (List.mem_append_left _ (List.mem_append_left _ (List.mem_append_left _ (List.mem_append_left _ (List.mem_append_right _ (List.mem_append_right _ (List.mem_append_left _ h))))))))))
  rcases List.mem_cons.mp hl with e | hl
  · rw [e]
    exact fun w h => List.mem_cons_of_mem _ (List.mem_append_left _ (List.mem_append_left _ (List.mem_append_left _ (List.mem_append_left _ (List.mem_append_left _ (List.mem_append_left _ (List.mem_append_left _ (List.mem_append_right _ (List.mem_append_right _ (List.mem_append_right _ (List.mem_append_left _ h)))))))))))
  rcases List.mem_cons.mp hl with e | hl
  · rw [e]
    exact fun w h => List.mem_cons_of_mem _ (List.mem_append_left _ (List.mem_append_left _ (List.mem_append_left _ (List.mem_append_left _ (List.mem_append_left _ (List.mem_append_left _ (List.mem_append_left _ (List.mem_append_right _ (List.mem_append_right _ (List.mem_append_right _ (List.mem_append_right _ (List.mem_append_left _ h))))))))))))
  rcases List.mem_cons.mp hl with e | hl
  · rw [e]
    exact fun w h => List.mem_cons_of_mem _ (List.mem_append_left _ (List.mem_append_left _ (List.mem_append_left _ (List.mem_append_left _ (List.mem_append_left _ (List.mem_append_left _ (List.mem_append_left _ (List.mem_append_right _ (List.mem_append_right _ (List.mem_append_right _ (List.mem_append_right _ (List.mem_append_right _ (List.mem_append_left _ h)))))))))))))
  rcases List.mem_cons.mp hl with e | hl
  · rw [e]
    exact fun w h => List.mem_cons_of_mem _ (List.mem_append_left _ (List.mem_append_left _ (List.mem_append_left _ (List.mem_append_left _ (List.mem_append_left _ (List.mem_append_left _ (List.mem_append_left _ (List.mem_append_right _ (List.mem_append_right _ (List.mem_append_right _ (List.mem_append_right _ (List.mem_append_right _ (List.mem_append_right _ h)))))))))))))
  rcases List.mem_cons.mp hl with e | hl
  · rw [e]
    exact fun w h => List.mem_cons_of_mem _ (List.mem_append_left _ (List.mem_append_left _ (List.mem_append_left _ (List.mem_append_left _ (List.mem_append_left _ (List.mem_append_left _ (List.mem_append_right _ h)))))))
  rcases List.mem_cons.mp hl with e | hl
  · rw [e]
    exact fun w h => List.mem_cons_of_mem _ (List.mem_append_left _ (List.mem_append_left _ (List.mem_append_left _ (List.mem_append_left _ (List.mem_append_left _ (List.mem_append_right _ h))))))
  rcases List.mem_cons.mp hl with e | hl
  · rw [e]
    exact fun w h => List.mem_cons_of_mem _ (List.mem_append_left _ (List.mem_append_left _ (List.mem_append_left _ (List.mem_append_left _ (List.mem_append_right _ h)))))
  rcases List.mem_cons.mp hl with e | hl
  · rw [e]
    exact fun w h => List.mem_cons_of_mem _ (List.mem_append_left _ (List.mem_append_left _ (List.mem_append_left _ (List.mem_append_right _ h))))
  rcases List.mem_cons.mp hl with e | hl
  · rw [e]
    exact fun w h => List.mem_cons_of_mem _ (List.mem_append_left _ (List.mem_append_left _ (List.mem_append_right _ h)))
  rcases List.mem_cons.mp hl with e | hl
  · rw [e]
    exact fun w h => List.mem_cons_of_mem _ (List.mem_append_left _ (List.mem_append_right _ h))
  rcases List.mem_cons.mp hl with e | hl
  · rw [e]
    exact fun w h => List.mem_cons_of_mem _ (List.mem_append_right _ h)
  cases hl
theorem zB_X11_halves_X30 : ∀ w ∈ wsX30, w ∈ wsX11_halves := fun _ h => List.mem_cons_of_mem _ (List.mem_append_left _ (List.mem_append_left _ (List.mem_append_left _ (List.mem_append_left _ (List.mem_append_left _ (List.mem_append_right _ h))))))
theorem zB_X11_halves_X90 : ∀ w ∈ wsX90, w ∈ wsX11_halves := fun _ h => List.mem_cons_of_mem _ (List.mem_append_left _ (List.mem_append_left _ (List.mem_append_left _ (List.mem_append_left _ (List.mem_append_right _ h)))))
theorem zB_X11_halves_X40 : ∀ w ∈ wsX40, w ∈ wsX11_halves := fun _ h => List.mem_cons_of_mem _ (List.mem_append_left _ (List.mem_append_left _ (List.mem_append_left _ (List.mem_append_right _ h))))
theorem zB_X11_halves_X20 : ∀ w ∈ wsX20, w ∈ wsX11_halves := fun _ h => List.mem_cons_of_mem _ (List.mem_append_left _ (List.mem_append_left _ (List.mem_append_right _ h)))
theorem zB_X11_halves_X70 : ∀ w ∈ wsX70, w ∈ wsX11_halves := fun _ h => List.mem_cons_of_mem _ (List.mem_append_left _ (List.mem_append_right _ h))
theorem zB_X11_halves_X60 : ∀ w ∈ wsX60, w ∈ wsX11_halves := fun _ h => List.mem_cons_of_mem _ (List.mem_append_right _ h)
set_option maxRecDepth 100000 in
theorem ggX11_halves_X3_goByHalves : GoodIn wsX11_halves wsX3_goByHalves := goodIn_hd (goodIn_c zc_wsX11_halves_in [(0, 9)] rfl (by decide +kernel)) (goodIn_app (goodIn_app (goodIn_app (goodIn_app (goodIn_app (goodIn_app (goodIn_app (goodIn_c zc_wsX11_halves_in [(0, 10), (0, 11), (0, 12), (0, 13), (0, 14), (0, 15), (0, 16), (0, 17), (0, 18), (0, 19), (0, 20), (0, 21), (0, 22), (0, 23), (1, 0), (1, 1), (1, 2), (1, 3), (1, 4), (1, 5), (1, 6), (1, 7), (1, 8), (1, 9)] rfl (by decide +kernel)) (goodIn_app (goodIn_c zc_wsX11_halves_in [(1, 10), (1, 11), (1, 12), (1, 13), (1, 14), (1, 15), (1, 16), (1, 17), (1, 18), (1, 19), (1, 20), (1, 21), (1, 22), (1, 23), (2, 0), (2, 1), (2, 2), (2, 3), (2, 4), (2, 5), (2, 6), (2, 7), (2, 8), (2, 9)] rfl (by decide +kernel)) (goodIn_app (goodIn_c zc_wsX11_halves_in [(2, 10), (2, 11), (2, 12), (2, 13), (2, 14), (2, 15), (2, 16), (2, 17), (2, 18), (2, 19), (2, 20), (2, 21), (2, 22), (2, 23), (3, 0), (3, 1), (3, 2), (3, 3), (3, 4), (3, 5), (3, 6), (3, 7), (3, 8), (3, 9)] rfl (by decide +kernel)) (goodIn_app (goodIn_c zc_wsX11_halves_in [(3, 10), (3, 11), (3, 12), (3, 13), (3, 14), (3, 15), (3, 16), (3, 17), (3, 18), (3, 19), (3, 20), (3, 21), (3, 22), (3, 23), (4, 0), (4, 1), (4, 2), (4, 3), (4, 4), (4, 5), (4, 6), (4, 7), (4, 8), (4, 9)] rfl (by decide +kernel)) (goodIn_app (goodIn_c zc_wsX11_halves_in [(4, 10), (4, 11), (4, 12), (4, 13), (4, 14), (4, 15), (4, 16), (4, 17), (4, 18), (4, 19), (4, 20), (4, 21), (4, 22), (4, 23), (5, 0), (5, 1), (5, 2), (5, 3), (5, 4), (5, 5), (5, 6), (5, 7), (5, 8), (5, 9)] rfl (by decide +kernel)) (goodIn_app (goodIn_c zc_wsX11_halves_in [(5, 10), (5, 11), (5, 12), (5, 13), (5, 14), (5, 15), (5, 16), (5, 17), (5, 18), (5, 19), (5, 20), (5, 21), (0, 8), (5, 22), (5, 23), (6, 0), (6, 1), (6, 2), (6, 3), (6, 4), (6, 5), (6, 6), (6, 7), (6, 8)] rfl (by decide +kernel)) (goodIn_c zc_wsX11_halves_in [(6, 9), (6, 10), (6, 11), (6, 12), (6, 13), (6, 14), (6, 15), (6, 16), (6, 17), (6, 18), (6, 19), (6, 20)] rfl (by decide +kernel)))))))) (goodIn_sub zB_X11_halves_X30 zgw_X30)) (goodIn_sub zB_X11_halves_X90 zgw_X90)) (goodIn_sub zB_X11_halves_X40 zgw_X40)) (goodIn_sub zB_X11_halves_X20 zgw_X20)) (goodIn_sub zB_X11_halves_X70 zgw_X70)) (goodIn_sub zB_X11_halves_X60 zgw_X60))
set_option maxRecDepth 100000 in
theorem gX11_halves_X3_goByHalves : GoodIn wsX11_halves (wsV RX11 290 RX3 yX3_goByHalves wsX3_goByHalves) := goodIn_app (goodIn_r _ [6, 7, 8, 9] rfl (by decide +kernel)) ggX11_halves_X3_goByHalves
set_option maxRecDepth 100000 in
theorem ggX11_halves_X9_hasNumber : GoodIn wsX11_halves wsX9_hasNumber := goodIn_hd (goodIn_c zc_wsX11_halves_in [(5, 2)] rfl (by decide +kernel)) (goodIn_app (goodIn_app (goodIn_c zc_wsX11_halves_in [(1, 1), (1, 2)] rfl (by decide +kernel)) (goodIn_sub zB_X11_halves_X90 zgw_X90)) (goodIn_sub zB_X11_halves_X40 zgw_X40))
set_option maxRecDepth 100000 in
theorem gX11_halves_X9_hasNumber : GoodIn wsX11_halves (wsV RX11 157 RX9 yX9_hasNumber wsX9_hasNumber) := goodIn_app (goodIn_r _ [166, 121, 122, 24] rfl (by decide +kernel)) ggX11_halves_X9_hasNumber
set_option maxRecDepth 100000 in
theorem ggX11_halves_X9_formatOf : GoodIn wsX11_halves wsX9_formatOf := goodIn_hd (goodIn_c zc_wsX11_halves_in [(2, 19)] rfl (by decide +kernel)) (goodIn_app (goodIn_app (goodIn_app (goodIn_c zc_wsX11_halves_in [(1, 1), (1, 2), (1, 3), (2, 20)] rfl (by decide +kernel)) (goodIn_sub zB_X11_halves_X90 zgw_X90)) (goodIn_sub zB_X11_halves_X40 zgw_X40)) (goodIn_sub zB_X11_halves_X20 zgw_X20))
set_option maxRecDepth 100000 in
theorem gX11_halves_X9_formatOf : GoodIn wsX11_halves (wsV RX11 224 RX9 yX9_formatOf wsX9_formatOf) := goodIn_app (goodIn_r _ [167, 66, 67, 24] rfl (by decide +kernel)) ggX11_halves_X9_formatOf
noncomputable def zc_wsX11_single : List (List Cond) := [wsX11_single_r1, wsX11_single_r2, wsX11_single_r3, wsX11_single_r4, wsX11_single_r5, wsX11_single_r6, wsX110, wsX30, wsX90, wsX40, wsX20, wsX70, wsX60]
set_option maxRecDepth 20000 in
theorem zc_wsX11_single_in : ∀ l ∈ zc_wsX11_single, ∀ w ∈ l, w ∈ wsX11_single := by
  intro l hl
  unfold zc_wsX11_single at hl
  rcases List.mem_cons.mp hl with e | hl
  · rw [e]
    exact fun w h => List.mem_cons_of_mem _ (List.mem_append_left _ (List.mem_append_left _ (List.mem_append_left _ (List.mem_append_left _ (List.mem_append_left _ (List.mem_append_left _ (List.mem_append_left _ (List.mem_append_left _ h))))))))
  rcases List.mem_cons.mp hl with e | hl
  · rw [e]
    exact fun w h => List.mem_cons_of_mem _ (List.mem_append_left _ (List.mem_append_left _ (List.mem_append_left _ (List.mem_append_left _ (List.mem_append_left _ (List.mem_append_left _ (List.mem_append_left _ (List.mem_append_right _ (List.mem_append_left _ h)))))))))
  rcases List.mem_cons.mp hl with e | hl
  · rw [e]
    exact fun w h => List.mem_cons_of_mem _ (List.mem_append_left _ (List.mem_append_left _ (List.mem_append_left _ (List.mem_append_left _ (List.mem_append_left _ (List.mem_append_left _ (List.mem_append_left _ (List.mem_append_right _ (List.mem_append_right _ (List.mem_append_left _ h))))))))))
  rcases List.mem_cons.mp hl with e | hl
  · rw [e]
    exact fun w h => List.mem_cons_of_mem _ (List.mem_append_left _ (List.mem_append_left _ (List.mem_append_left _ (List.mem_append_left _ (List.mem_append_left _ (List.mem_append_left _ (List.mem_append_left _ (List.mem_append_right _ (List.mem_append_right _ (List.mem_append_right _ (List.mem_append_left _ h)))))))))))
  rcases List.mem_cons.mp hl with e | hl
  · rw [e]
    exact fun w h => List.mem_cons_of_mem _ (List.mem_append_left _ (List.mem_append_left _ (List.mem_append_left _ (List.mem_append_left _ (List.mem_append_left _ (List.mem_append_left _ (List.mem_append_left _ (List.mem_append_right _ (List.mem_append_right _ (List.mem_append_right _ (List.mem_append_right _ (List.mem_append_left _ h))))))))))))
  rcases List.mem_cons.mp hl with e | hl
  · rw [e]
    exact fun w h => List.mem_cons_of_mem _ (List.mem_append_left _ (List.mem_append_left _ (List.mem_append_left _ (List.mem_append_left _ (List.mem_append_left _ (List.mem_append_left _ (List.mem_append_left _ (List.mem_append_right _ (List.mem_append_right _ (List.mem_append_right _ (List.mem_append_right _ (List.mem_append_right _ h))))))))))))
  rcases List.mem_cons.mp hl with e | hl
  · rw [e]
    exact fun w h => List.mem_cons_of_mem _ (List.mem_append_left _ (List.mem_append_left _ (List.mem_append_left _ (List.mem_append_left _ (List.mem_append_left _ (List.mem_append_left _ (List.mem_append_right _ h)))))))
  rcases List.mem_cons.mp hl with e | hl
  · rw [e]
    exact fun w h => List.mem_cons_of_mem _ (List.mem_append_left _ (List.mem_append_left _ (List.mem_append_left _ (List.mem_append_left _ (List.mem_append_left _ (List.mem_append_right _ h))))))
  rcases List.mem_cons.mp hl with e | hl
  · rw [e]
    exact fun w h => List.mem_cons_of_mem _ (List.mem_append_left _ (List.mem_append_left _ (List.mem_append_left _ (List.mem_append_left _ (List.mem_append_right _ h)))))
  rcases List.mem_cons.mp hl with e | hl
  · rw [e]
    exact fun w h => List.mem_cons_of_mem _ (List.mem_append_left _ (List.mem_append_left _ (List.mem_append_left _ (List.mem_append_right _ h))))
  rcases List.mem_cons.mp hl with e | hl
  · rw [e]
    exact fun w h => List.mem_cons_of_mem _ (List.mem_append_left _ (List.mem_append_left _ (List.mem_append_right _ h)))
  rcases List.mem_cons.mp hl with e | hl
  · rw [e]
    exact fun w h => List.mem_cons_of_mem _ (List.mem_append_left _ (List.mem_append_right _ h))
  rcases List.mem_cons.mp hl with e | hl
  · rw [e]
    exact fun w h => List.mem_cons_of_mem _ (List.mem_append_right _ h)
  cases hl
theorem zB_X11_single_X90 : ∀ w ∈ wsX90, w ∈ wsX11_single := fun _ h => List.mem_cons_of_mem _ (List.mem_append_left _ (List.mem_append_left _ (List.mem_append_left _ (List.mem_append_left _ (List.mem_append_right _ h)))))
theorem zB_X11_single_X40 : ∀ w ∈ wsX40, w ∈ wsX11_single := fun _ h => List.mem_cons_of_mem _ (List.mem_append_left _ (List.mem_append_left _ (List.mem_append_left _ (List.mem_append_right _ h))))
theorem zB_X11_single_X20 : ∀ w ∈ wsX20, w ∈ wsX11_single := fun _ h => List.mem_cons_of_mem _ (List.mem_append_left _ (List.mem_append_left _ (List.mem_append_right _ h)))
set_option maxRecDepth 100000 in
theorem ggX11_single_X9_hasChoice : GoodIn wsX11_single wsX9_hasChoice := goodIn_hd (goodIn_c zc_wsX11_single_in [(0, 12)] rfl (by decide +kernel)) (goodIn_app (goodIn_app (goodIn_app (goodIn_c zc_wsX11_single_in [(0, 13), (0, 14), (0, 15), (0, 16)] rfl (by decide +kernel)) (goodIn_sub zB_X11_single_X90 zgw_X90)) (goodIn_sub zB_X11_single_X40 zgw_X40)) (goodIn_sub zB_X11_single_X20 zgw_X20))
set_option maxRecDepth 100000 in
theorem gX11_single_X9_hasChoice : GoodIn wsX11_single (wsV RX11 220 RX9 yX9_hasChoice wsX9_hasChoice) := goodIn_app (goodIn_r _ [9, 10, 11, 12] rfl (by decide +kernel)) ggX11_single_X9_hasChoice
theorem zB_X11_single_X30 : ∀ w ∈ wsX30, w ∈ wsX11_single := fun _ h => List.mem_cons_of_mem _ (List.mem_append_left _ (List.mem_append_left _ (List.mem_append_left _ (List.mem_append_left _ (List.mem_append_left _ (List.mem_append_right _ h))))))
theorem zB_X11_single_X70 : ∀ w ∈ wsX70, w ∈ wsX11_single := fun _ h => List.mem_cons_of_mem _ (List.mem_append_left _ (List.mem_append_right _ h))
theorem zB_X11_single_X60 : ∀ w ∈ wsX60, w ∈ wsX11_single := fun _ h => List.mem_cons_of_mem _ (List.mem_append_right _ h)
set_option maxRecDepth 100000 in
theorem ggX11_single_X3_lookAround : GoodIn wsX11_single wsX3_lookAround := goodIn_hd (goodIn_c zc_wsX11_single_in [(0, 21)] rfl (by decide +kernel)) (goodIn_app (goodIn_app (goodIn_app (goodIn_app (goodIn_app (goodIn_app (goodIn_app (goodIn_c zc_wsX11_single_in [(0, 22), (0, 23), (1, 0), (1, 1), (1, 2), (1, 3), (1, 4), (1, 5), (1, 6), (1, 7), (1, 8), (1, 9), (1, 10), (1, 11), (1, 12), (1, 13), (1, 14), (0, 11), (1, 15), (1, 16), (0, 13), (0, 14), (1, 17), (1, 18)] rfl (by decide +kernel)) (goodIn_app (goodIn_c zc_wsX11_single_in [(1, 19), (1, 20), (1, 21), (1, 22), (1, 23), (2, 0), (2, 1), (2, 2), (2, 3), (2, 4), (2, 5), (2, 6), (2, 7), (2, 8), (0, 15), (2, 9), (2, 10), (2, 11), (2, 12), (2, 13), (2, 14), (2, 15), (2, 16), (2, 17)] rfl (by decide +kernel)) (goodIn_app (goodIn_c zc_wsX11_single_in [(2, 18), (2, 19), (2, 20), (2, 21), (2, 22), (2, 23), (3, 0), (3, 1), (3, 2), (3, 3), (3, 4), (3, 5), (3, 6), (3, 7), (3, 8), (3, 9), (3, 10), (3, 11), (3, 12), (3, 13), (3, 14), (3, 15), (3, 16), (3, 17)] rfl (by decide +kernel)) (goodIn_app (goodIn_c zc_wsX11_single_in [(3, 18), (3, 19), (3, 20), (3, 21), (3, 22), (3, 23), (4, 0), (4, 1), (4, 2), (4, 3), (4, 4), (4, 5), (4, 6), (4, 7), (4, 8), (4, 9), (4, 10), (4, 11), (4, 12), (4, 13), (4, 14), (4, 15), (4, 16), (4, 17)] rfl (by decide +kernel)) (goodIn_c zc_wsX11_single_in [(4, 18), (4, 19), (4, 20), (4, 21), (4, 22), (4, 23), (5, 0), (5, 1), (5, 2), (5, 3), (5, 4), (5, 5), (5, 6), (5, 7), (5, 8), (5, 9), (5, 10), (5, 11), (5, 12), (5, 13)] rfl (by decide +kernel)))))) (goodIn_sub zB_X11_single_X30 zgw_X30)) (goodIn_sub zB_X11_single_X90 zgw_X90)) (goodIn_sub zB_X11_single_X20 zgw_X20)) (goodIn_sub zB_X11_single_X40 zgw_X40)) (goodIn_sub zB_X11_single_X70 zgw_X70)) (goodIn_sub zB_X11_single_X60 zgw_X60))
set_option maxRecDepth 100000 in
theorem gX11_single_X3_lookAround : GoodIn wsX11_single (wsV RX11 301 RX3 yX3_lookAround wsX3_lookAround) := goodIn_app (goodIn_r _ [18, 19, 20, 21] rfl (by decide +kernel)) ggX11_single_X3_lookAround
set_option maxRecDepth 100000 in
theorem ggX11_single_X2_leaderOf : GoodIn wsX11_single wsX2_leaderOf := goodIn_r _ [139, 140, 141, 193, 194, 195, 196, 197, 198] rfl (by decide +kernel)
set_option maxRecDepth 100000 in
theorem gX11_single_X2_leaderOf : GoodIn wsX11_single (wsV RX11 314 RX2 yX2_leaderOf wsX2_leaderOf) := goodIn_app (goodIn_r _ [135, 136, 137, 138] rfl (by decide +kernel)) ggX11_single_X2_leaderOf
noncomputable def zc_wsX11_take : List (List Cond) := [wsX11_take_r1, wsX11_take_r2, wsX11_take_r3, wsX11_take_r4, wsX11_take_r5, wsX11_take_r6, wsX11_take_r7, wsX11_take_r8, wsX11_take_r9, wsX11_take_r10, wsX11_take_r11, wsX110, wsX30, wsX10, wsX90, wsX40, wsX20, wsX70, wsX60]
set_option maxRecDepth 20000 in
theorem zc_wsX11_take_in : ∀ l ∈ zc_wsX11_take, ∀ w ∈ l, w ∈ wsX11_take := by
  intro l hl
  unfold zc_wsX11_take at hl
  rcases List.mem_cons.mp hl with e | hl
  · rw [e]
    exact fun w h => List.mem_cons_of_mem _ (List.mem_append_left _ (List.mem_append_left _ (List.mem_append_left _ (List.mem_append_left _ (List.mem_append_left _ (List.mem_append_left _ (List.mem_append_left _ (List.mem_append_left _ (List.mem_append_left _ h)))))))))
  rcases List.mem_cons.mp hl with e | hl
  · rw [e]
    exact fun w h => List.mem_cons_of_mem _ (List.mem_append_left _ (List.mem_append_left _ (List.mem_append_left _ (List.mem_append_left _ (List.mem_append_left _ (List.mem_append_left _ (List.mem_append_left _ (List.mem_append_left _ (List.mem_append_right _ (List.mem_append_left _ h))))))))))
  rcases List.mem_cons.mp hl with e | hl
  · rw [e]
    exact fun w h => List.mem_cons_of_mem _ (List.mem_append_left _ (List.mem_append_left _ (List.mem_append_left _ (List.mem_append_left _ (List.mem_append_left _ (List.mem_append_left _ (List.mem_append_left _ (List.mem_append_left _ (List.mem_append_right _ (List.mem_append_right _ (List.mem_append_left _ h)))))))))))
  rcases List.mem_cons.mp hl with e | hl
  · rw [e]
    exact fun w h => List.mem_cons_of_mem _ (List.mem_append_left _ (List.mem_append_left _ (List.mem_append_left _ (List.mem_append_left _ (List.mem_append_left _ (List.mem_append_left _ (List.mem_append_left _ (List.mem_append_left _ (List.mem_append_right _ (List.mem_append_right _ (List.mem_append_right _ (List.mem_append_left _ h))))))))))))
  rcases List.mem_cons.mp hl with e | hl
  · rw [e]
    exact fun w h => List.mem_cons_of_mem _ (List.mem_append_left _ (List.mem_append_left _ (List.mem_append_left _ (List.mem_append_left _ (List.mem_append_left _ (List.mem_append_left _ (List.mem_append_left _ (List.mem_append_left _ (List.mem_append_right _ (List.mem_append_right _ (List.mem_append_right _ (List.mem_append_right _ (List.mem_append_left _ h)))))))))))))
  rcases List.mem_cons.mp hl with e | hl
  · rw [e]
    exact fun w h => List.mem_cons_of_mem _ (List.mem_append_left _ (List.mem_append_left _ (List.mem_append_left _ (List.mem_append_left _ (List.mem_append_left _ (List.mem_append_left _ (List.mem_append_left _ (List.mem_append_left _ (List.mem_append_right _ (List.mem_append_right _ (List.mem_append_right _ (List.mem_append_right _ (List.mem_append_right _ (List.mem_append_left _ h))))))))))))))
  rcases List.mem_cons.mp hl with e | hl
  · rw [e]
    exact fun w h => List.mem_cons_of_mem _ (List.mem_append_left _ (List.mem_append_left _ (List.mem_append_left _ (List.mem_append_left _ (List.mem_append_left _ (List.mem_append_left _ (List.mem_append_left _ (List.mem_append_left _ (List.mem_append_right _ (List.mem_append_right _ (List.mem_append_right _ (List.mem_append_right _ (List.mem_append_right _ (List.mem_append_right _ (List.mem_append_left _ h)))))))))))))))
  rcases List.mem_cons.mp hl with e | hl
  · rw [e]
    exact fun w h => List.mem_cons_of_mem _ (List.mem_append_left _ (List.mem_append_left _ (List.mem_append_left _ (List.mem_append_left _ (List.mem_append_left _ (List.mem_append_left _ (List.mem_append_left _ (List.mem_append_left _ (List.mem_append_right _ (List.mem_append_right _ (List.mem_append_right _ (List.mem_append_right _ (List.mem_append_right _ (List.mem_append_right _ (List.mem_append_right _ (List.mem_append_left _ h))))))))))))))))
  rcases List.mem_cons.mp hl with e | hl
  · rw [e]
    exact fun w h => List.mem_cons_of_mem _ (List.mem_append_left _ (List.mem_append_left _ (List.mem_append_left _ (List.mem_append_left _ (List.mem_append_left _ (List.mem_append_left _ (List.mem_append_left _ (List.mem_append_left _ (List.mem_append_right _ (List.mem_append_right _ (List.mem_append_right _ (List.mem_append_right _ (List.mem_append_right _ (List.mem_append_right _ (List.mem_append_right _ (List.mem_append_right _ (List.mem_append_left _ h)))))))))))))))))
  rcases List.mem_cons.mp hl with e | hl
  · rw [e]
    exact fun w h => List.mem_cons_of_mem _ (List.mem_append_left _ (List.mem_append_left _ (List.mem_append_left _ (List.mem_append_left _ (List.mem_append_left _ (List.mem_append_left _ (List.mem_append_left _ (List.mem_append_left _ (List.mem_append_right _ (List.mem_append_right _ (List.mem_append_right _ (List.mem_append_right _ (List.mem_append_right _ (List.mem_append_right _ (List.mem_append_right _ (List.mem_append_right _ (List.mem_append_right _ (List.mem_append_left _ h))))))))))))))))))
  rcases List.mem_cons.mp hl with e | hl
  · rw [e]
    exact fun w h => List.mem_cons_of_mem _ (List.mem_append_left _ (List.mem_append_left _ (List.mem_append_left _ (List.mem_append_left _ (List.mem_append_left _ (List.mem_append_left _ (List.mem_append_left _ (List.mem_append_left _ (List.mem_append_right _ (List.mem_append_right _ (List.mem_append_right _ (List.mem_append_right _ (List.mem_append_right _ (List.mem_append_right _ (List.mem_append_right _ (List.mem_append_right _ (List.mem_append_right _ (List.mem_append_right _ h))))))))))))))))))
  rcases List.mem_cons.mp hl with e | hl
  · rw [e]
    exact fun w h => List.mem_cons_of_mem _ (List.mem_append_left _ (List.mem_append_left _ (List.mem_append_left _ (List.mem_append_left _ (List.mem_append_left _ (List.mem_append_left _ (List.mem_append_left _ (List.mem_append_right _ h))))))))
  rcases List.mem_cons.mp hl with e | hl
  · rw [e]
    exact fun w h => List.mem_cons_of_mem _ (List.mem_append_left _ (List.mem_append_left _ (List.mem_append_left _ (List.mem_append_left _ (List.mem_append_left _ (List.mem_append_left _ (List.mem_append_right _ h)))))))
  rcases List.mem_cons.mp hl with e | hl
  · rw [e]
    exact fun w h => List.mem_cons_of_mem _ (List.mem_append_left _ (List.mem_append_left _ (List.mem_append_left _ (List.mem_append_left _ (List.mem_append_left _ (List.mem_append_right _ h))))))
  rcases List.mem_cons.mp hl with e | hl
  · rw [e]
    exact fun w h => List.mem_cons_of_mem _ (List.mem_append_left _ (List.mem_append_left _ (List.mem_append_left _ (List.mem_append_left _ (List.mem_append_right _ h)))))
  rcases List.mem_cons.mp hl with e | hl
  · rw [e]
    exact fun w h => List.mem_cons_of_mem _ (List.mem_append_left _ (List.mem_append_left _ (List.mem_append_left _ (List.mem_append_right _ h))))
  rcases List.mem_cons.mp hl with e | hl
  · rw [e]
    exact fun w h => List.mem_cons_of_mem _ (List.mem_append_left _ (List.mem_append_left _ (List.mem_append_right _ h)))
  rcases List.mem_cons.mp hl with e | hl
  · rw [e]
    exact fun w h => List.mem_cons_of_mem _ (List.mem_append_left _ (List.mem_append_right _ h))
  rcases List.mem_cons.mp hl with e | hl
  · rw [e]
    exact fun w h => List.mem_cons_of_mem _ (List.mem_append_right _ h)
  cases hl
theorem zB_X11_take_X110 : ∀ w ∈ wsX110, w ∈ wsX11_take := fun _ h => List.mem_cons_of_mem _ (List.mem_append_left _ (List.mem_append_left _ (List.mem_append_left _ (List.mem_append_left _ (List.mem_append_left _ (List.mem_append_left _ (List.mem_append_left _ (List.mem_append_right _ h))))))))
theorem zB_X11_take_X10 : ∀ w ∈ wsX10, w ∈ wsX11_take := fun _ h => List.mem_cons_of_mem _ (List.mem_append_left _ (List.mem_append_left _ (List.mem_append_left _ (List.mem_append_left _ (List.mem_append_left _ (List.mem_append_right _ h))))))
theorem zB_X11_take_X90 : ∀ w ∈ wsX90, w ∈ wsX11_take := fun _ h => List.mem_cons_of_mem _ (List.mem_append_left _ (List.mem_append_left _ (List.mem_append_left _ (List.mem_append_left _ (List.mem_append_right _ h)))))
theorem zB_X11_take_X40 : ∀ w ∈ wsX40, w ∈ wsX11_take := fun _ h => List.mem_cons_of_mem _ (List.mem_append_left _ (List.mem_append_left _ (List.mem_append_left _ (List.mem_append_right _ h))))
theorem zB_X11_take_X20 : ∀ w ∈ wsX20, w ∈ wsX11_take := fun _ h => List.mem_cons_of_mem _ (List.mem_append_left _ (List.mem_append_left _ (List.mem_append_right _ h)))
theorem zB_X11_take_X70 : ∀ w ∈ wsX70, w ∈ wsX11_take := fun _ h => List.mem_cons_of_mem _ (List.mem_append_left _ (List.mem_append_right _ h))
theorem zB_X11_take_X60 : ∀ w ∈ wsX60, w ∈ wsX11_take := fun _ h => List.mem_cons_of_mem _ (List.mem_append_right _ h)
set_option maxRecDepth 100000 in
theorem ggX11_take_X11_takeCheapest : GoodIn wsX11_take wsX11_takeCheapest := goodIn_hd (goodIn_c zc_wsX11_take_in [(0, 8)] rfl (by decide +kernel)) (goodIn_app (goodIn_app (goodIn_app (goodIn_app (goodIn_app (goodIn_app (goodIn_app (goodIn_app (goodIn_c zc_wsX11_take_in [(0, 9), (0, 1), (0, 10), (0, 3), (0, 11), (0, 12), (0, 13), (0, 14), (0, 15), (0, 16), (0, 17), (0, 18), (0, 19), (0, 20), (0, 21), (0, 22), (0, 23), (1, 0), (1, 1), (1, 2), (1, 3), (1, 4), (1, 5), (1, 6)] rfl (by decide +kernel)) (goodIn_app (goodIn_c zc_wsX11_take_in [(1, 7), (1, 8), (1, 9), (1, 10), (1, 11), (1, 12), (1, 13), (1, 14), (1, 15), (1, 16), (1, 17), (1, 18), (1, 19), (1, 20), (1, 21), (1, 22), (1, 23), (2, 0), (2, 1), (2, 2), (2, 3), (2, 4), (2, 5), (2, 6)] rfl (by decide +kernel)) (goodIn_app (goodIn_c zc_wsX11_take_in [(2, 7), (2, 8), (2, 9), (2, 10), (2, 11), (2, 12), (2, 13), (2, 14), (2, 15), (2, 16), (2, 17), (2, 18), (2, 19), (2, 20), (2, 21), (2, 22), (2, 23), (3, 0), (3, 1), (3, 2), (3, 3), (3, 4), (3, 5), (3, 6)] rfl (by decide +kernel)) (goodIn_app (goodIn_c zc_wsX11_take_in [(3, 7), (3, 8), (3, 9), (3, 10), (3, 11), (3, 12), (3, 13), (3, 14), (3, 15), (3, 16), (3, 17), (3, 18), (3, 19), (3, 20), (3, 21), (3, 22), (3, 23), (4, 0), (4, 1), (4, 2), (4, 3), (4, 4), (4, 5), (4, 6)] rfl (by decide +kernel)) (goodIn_app (goodIn_c zc_wsX11_take_in [(4, 7), (4, 8), (4, 9), (4, 10), (4, 11), (4, 12), (4, 13), (4, 14), (0, 7), (4, 15), (4, 16), (4, 17), (4, 18), (4, 19), (4, 20), (4, 21), (4, 22), (4, 23), (5, 0), (5, 1), (5, 2), (5, 3), (5, 4), (5, 5)] rfl (by decide +kernel)) (goodIn_app (goodIn_c zc_wsX11_take_in [(5, 6), (5, 7), (5, 8), (5, 9), (5, 10), (5, 11), (5, 12), (5, 13), (5, 14), (5, 15), (5, 16), (5, 17), (5, 18), (5, 19), (5, 20), (5, 21), (5, 22), (5, 23), (6, 0), (6, 1), (6, 2), (6, 3), (6, 4), (6, 5)] rfl (by decide +kernel)) (goodIn_c zc_wsX11_take_in [(6, 6), (6, 7), (6, 8), (6, 9), (6, 10), (6, 11), (6, 12), (6, 13), (6, 14), (6, 15), (6, 16), (6, 17), (6, 18), (6, 19), (6, 20), (6, 21), (6, 22)] rfl (by decide +kernel)))))))) (goodIn_sub zB_X11_take_X110 zgw_X110)) (goodIn_sub zB_X11_take_X10 zgw_X10)) (goodIn_sub zB_X11_take_X90 zgw_X90)) (goodIn_sub zB_X11_take_X40 zgw_X40)) (goodIn_sub zB_X11_take_X20 zgw_X20)) (goodIn_sub zB_X11_take_X70 zgw_X70)) (goodIn_sub zB_X11_take_X60 zgw_X60))
set_option maxRecDepth 100000 in
theorem gX11_take_X11_takeCheapest : GoodIn wsX11_take (wsV RX11 320 RX11 yX11_takeCheapest wsX11_takeCheapest) := goodIn_app (goodIn_r _ [5, 6, 7, 8] rfl (by decide +kernel)) ggX11_take_X11_takeCheapest
theorem zB_X11_take_X30 : ∀ w ∈ wsX30, w ∈ wsX11_take := fun _ h => List.mem_cons_of_mem _ (List.mem_append_left _ (List.mem_append_left _ (List.mem_append_left _ (List.mem_append_left _ (List.mem_append_left _ (List.mem_append_left _ (List.mem_append_right _ h)))))))
set_option maxRecDepth 100000 in
theorem ggX11_take_X3_goByHalves : GoodIn wsX11_take wsX3_goByHalves := goodIn_hd (goodIn_c zc_wsX11_take_in [(7, 3)] rfl (by decide +kernel)) (goodIn_app (goodIn_app (goodIn_app (goodIn_app (goodIn_app (goodIn_app (goodIn_app (goodIn_c zc_wsX11_take_in [(7, 4), (7, 5), (7, 6), (7, 7), (7, 8), (7, 9), (7, 10), (7, 11), (7, 12), (7, 13), (7, 14), (1, 0), (1, 1), (1, 2), (1, 3), (1, 4), (1, 5), (1, 6), (1, 7), (7, 15), (7, 16), (7, 17), (7, 18), (3, 22)] rfl (by decide +kernel)) (goodIn_app (goodIn_c zc_wsX11_take_in [(3, 23), (7, 19), (7, 20), (7, 21), (7, 22), (7, 23), (8, 0), (8, 1), (8, 2), (2, 16), (2, 17), (2, 18), (2, 19), (2, 20), (2, 21), (2, 22), (2, 23), (3, 0), (3, 1), (3, 2), (3, 3), (3, 4), (3, 5), (3, 6)] rfl (by decide +kernel)) (goodIn_app (goodIn_c zc_wsX11_take_in [(3, 7), (3, 8), (3, 9), (3, 10), (3, 11), (3, 12), (3, 13), (3, 14), (3, 15), (3, 16), (3, 17), (3, 18), (3, 19), (3, 20), (3, 21), (4, 0), (4, 1), (4, 2), (4, 3), (4, 4), (4, 5), (4, 6), (1, 20), (4, 7)] rfl (by decide +kernel)) (goodIn_app (goodIn_c zc_wsX11_take_in [(1, 22), (4, 8), (4, 9), (4, 10), (4, 11), (4, 12), (4, 13), (4, 14), (0, 7), (4, 15), (4, 16), (4, 17), (4, 18), (4, 19), (4, 20), (4, 21), (4, 22), (4, 23), (5, 0), (5, 1), (5, 2), (5, 3), (5, 4), (5, 5)] rfl (by decide +kernel)) (goodIn_app (goodIn_c zc_wsX11_take_in [(5, 6), (5, 7), (5, 8), (5, 9), (5, 10), (5, 11), (5, 12), (5, 13), (5, 14), (5, 15), (5, 16), (5, 17), (5, 18), (5, 19), (5, 20), (5, 21), (5, 22), (8, 3), (6, 0), (6, 1), (6, 2), (6, 3), (6, 4), (6, 5)] rfl (by decide +kernel)) (goodIn_app (goodIn_c zc_wsX11_take_in [(6, 6), (6, 7), (6, 8), (6, 9), (6, 10), (6, 11), (6, 12), (6, 13), (6, 14), (8, 4), (8, 5), (8, 6), (7, 2), (8, 7), (8, 8), (8, 9), (8, 10), (8, 11), (8, 12), (8, 13), (8, 14), (8, 15), (8, 16), (8, 17)] rfl (by decide +kernel)) (goodIn_c zc_wsX11_take_in [(8, 18), (8, 19), (8, 20), (8, 21), (8, 22), (8, 23), (9, 0), (9, 1), (9, 2), (9, 3), (9, 4), (9, 5)] rfl (by decide +kernel)))))))) (goodIn_sub zB_X11_take_X30 zgw_X30)) (goodIn_sub zB_X11_take_X90 zgw_X90)) (goodIn_sub zB_X11_take_X40 zgw_X40)) (goodIn_sub zB_X11_take_X20 zgw_X20)) (goodIn_sub zB_X11_take_X70 zgw_X70)) (goodIn_sub zB_X11_take_X60 zgw_X60))
set_option maxRecDepth 100000 in
theorem gX11_take_X3_goByHalves : GoodIn wsX11_take (wsV RX11 290 RX3 yX3_goByHalves wsX3_goByHalves) := goodIn_app (goodIn_r _ [168, 169, 170, 171] rfl (by decide +kernel)) ggX11_take_X3_goByHalves
set_option maxRecDepth 100000 in
theorem ggX11_take_X11_copyChoice : GoodIn wsX11_take wsX11_copyChoice := goodIn_r _ [225] rfl (by decide +kernel)
set_option maxRecDepth 100000 in
theorem gX11_take_X11_copyChoice : GoodIn wsX11_take (va_wsS RX11 265 yX11_copyChoice wsX11_copyChoice) := goodIn_app (goodIn_r _ [223, 224, 8] rfl (by decide +kernel)) ggX11_take_X11_copyChoice
set_option maxRecDepth 100000 in
theorem ggX11_take_X11_takeSingle : GoodIn wsX11_take wsX11_takeSingle := goodIn_hd (goodIn_c zc_wsX11_take_in [(9, 12)] rfl (by decide +kernel)) (goodIn_app (goodIn_app (goodIn_app (goodIn_app (goodIn_app (goodIn_app (goodIn_app (goodIn_app (goodIn_c zc_wsX11_take_in [(0, 1), (0, 0), (0, 3), (9, 13), (9, 14), (9, 15), (9, 16), (1, 0), (1, 1), (1, 2), (1, 3), (1, 4), (1, 5), (1, 6), (1, 7), (9, 17), (9, 18), (9, 19), (7, 2), (9, 20), (9, 21), (9, 22), (9, 23), (10, 0)] rfl (by decide +kernel)) (goodIn_app (goodIn_c zc_wsX11_take_in [(10, 1), (7, 6), (8, 15), (8, 16), (7, 13), (7, 10), (7, 11), (9, 7), (0, 7), (9, 8), (8, 3), (6, 0), (6, 1), (6, 2), (6, 3), (6, 4), (6, 5), (6, 6), (6, 7), (6, 8), (6, 9), (4, 5), (4, 6), (1, 20)] rfl (by decide +kernel)) (goodIn_app (goodIn_c zc_wsX11_take_in [(4, 7), (1, 22), (4, 8), (6, 10), (3, 14), (3, 15), (3, 16), (3, 17), (6, 11), (6, 12), (6, 13), (6, 14), (3, 22), (8, 2), (2, 16), (2, 17), (2, 18), (2, 19), (2, 20), (2, 21), (2, 22), (2, 23), (3, 0), (3, 1)] rfl (by decide +kernel)) (goodIn_app (goodIn_c zc_wsX11_take_in [(3, 2), (3, 3), (3, 4), (3, 5), (3, 6), (3, 7), (3, 8), (3, 9), (3, 10), (3, 11), (3, 12), (3, 13), (3, 18), (3, 19), (3, 20), (3, 21), (3, 23), (4, 0), (4, 1), (4, 2), (4, 3), (4, 4), (4, 9), (4, 10)] rfl (by decide +kernel)) (goodIn_app (goodIn_c zc_wsX11_take_in [(4, 11), (4, 12), (4, 13), (4, 14), (4, 15), (4, 16), (4, 17), (4, 18), (4, 19), (4, 20), (4, 21), (4, 22), (4, 23), (5, 0), (5, 1), (5, 2), (5, 3), (5, 4), (5, 5), (5, 6), (5, 7), (5, 8), (5, 9), (5, 10)] rfl (by decide +kernel)) (goodIn_c zc_wsX11_take_in [(5, 11), (5, 12), (5, 13), (5, 14), (5, 15), (5, 16), (5, 17), (5, 18), (5, 19), (5, 20), (5, 21), (5, 22), (10, 2), (10, 3), (10, 4), (7, 22), (10, 5), (8, 0), (8, 1)] rfl (by decide +kernel))))))) (goodIn_sub zB_X11_take_X110 zgw_X110)) (goodIn_sub zB_X11_take_X90 zgw_X90)) (goodIn_sub zB_X11_take_X30 zgw_X30)) (goodIn_sub zB_X11_take_X40 zgw_X40)) (goodIn_sub zB_X11_take_X20 zgw_X20)) (goodIn_sub zB_X11_take_X70 zgw_X70)) (goodIn_sub zB_X11_take_X60 zgw_X60))
set_option maxRecDepth 100000 in
theorem gX11_take_X11_takeSingle : GoodIn wsX11_take (wsV RX11 323 RX11 yX11_takeSingle wsX11_takeSingle) := goodIn_app (goodIn_r _ [226, 227, 228, 8] rfl (by decide +kernel)) ggX11_take_X11_takeSingle
set_option maxRecDepth 100000 in
theorem ggX11_take_X9_priceOf : GoodIn wsX11_take wsX9_priceOf := goodIn_hd (goodIn_c zc_wsX11_take_in [(6, 2)] rfl (by decide +kernel)) (goodIn_app (goodIn_app (goodIn_app (goodIn_app (goodIn_c zc_wsX11_take_in [(6, 3), (1, 4), (1, 5), (6, 4), (6, 5), (6, 6), (6, 7), (1, 2), (6, 8), (6, 9), (4, 5), (4, 6), (1, 20), (4, 7), (1, 22), (4, 8), (6, 10), (3, 14), (3, 15), (3, 16), (1, 6), (3, 17), (6, 11), (6, 12)] rfl (by decide +kernel)) (goodIn_c zc_wsX11_take_in [(6, 13), (6, 14), (3, 22)] rfl (by decide +kernel))) (goodIn_sub zB_X11_take_X90 zgw_X90)) (goodIn_sub zB_X11_take_X40 zgw_X40)) (goodIn_sub zB_X11_take_X20 zgw_X20))
set_option maxRecDepth 100000 in
theorem gX11_take_X9_priceOf : GoodIn wsX11_take (wsV RX11 231 RX9 yX9_priceOf wsX9_priceOf) := goodIn_app (goodIn_r _ [247, 145, 146, 27] rfl (by decide +kernel)) ggX11_take_X9_priceOf
set_option maxRecDepth 100000 in
theorem ggX11_take_X11_refuse : GoodIn wsX11_take wsX11_refuse := goodIn_hd (goodIn_c zc_wsX11_take_in [(10, 10)] rfl (by decide +kernel)) (goodIn_app (goodIn_c zc_wsX11_take_in [(10, 11)] rfl (by decide +kernel)) (goodIn_sub zB_X11_take_X110 zgw_X110))
set_option maxRecDepth 100000 in
theorem gX11_take_X11_refuse : GoodIn wsX11_take (wsV RX11 92 RX11 yX11_refuse wsX11_refuse) := goodIn_app (goodIn_r _ [248, 249, 250, 8] rfl (by decide +kernel)) ggX11_take_X11_refuse
noncomputable def zc_wsX11_front : List (List Cond) := [wsX11_front_r1, wsX11_front_r2, wsX11_front_r3, wsX11_front_r4, wsX11_front_r5, wsX11_front_r6, wsX11_front_r7, wsX11_front_r8, wsX110, wsX10, wsX90, wsX40, wsX20, wsX70, wsX60]
set_option maxRecDepth 20000 in
theorem zc_wsX11_front_in : ∀ l ∈ zc_wsX11_front, ∀ w ∈ l, w ∈ wsX11_front := by
  intro l hl
  unfold zc_wsX11_front at hl
  rcases List.mem_cons.mp hl with e | hl
  · rw [e]
    exact fun w h => List.mem_cons_of_mem _ (List.mem_append_left _ (List.mem_append_left _ (List.mem_append_left _ (List.mem_append_left _ (List.mem_append_left _ (List.mem_append_left _ (List.mem_append_left _ (List.mem_append_left _ h))))))))
  rcases List.mem_cons.mp hl with e | hl
  · rw [e]
    exact fun w h => List.mem_cons_of_mem _ (List.mem_append_left _ (List.mem_append_left _ (List.mem_append_left _ (List.mem_append_left _ (List.mem_append_left _ (List.mem_append_left _ (List.mem_append_left _ (List.mem_append_right _ (List.mem_append_left _ h)))))))))
  rcases List.mem_cons.mp hl with e | hl
  · rw [e]
    exact fun w h => List.mem_cons_of_mem _ (List.mem_append_left _ (List.mem_append_left _ (List.mem_append_left _ (List.mem_append_left _ (List.mem_append_left _ (List.mem_append_left _ (List.mem_append_left _ (List.mem_append_right _ (List.mem_append_right _ (List.mem_append_left _ h))))))))))
  rcases List.mem_cons.mp hl with e | hl
  · rw [e]
    exact fun w h => List.mem_cons_of_mem _ (List.mem_append_left _ (List.mem_append_left _ (List.mem_append_left _ (List.mem_append_left _ (List.mem_append_left _ (List.mem_append_left _ (List.mem_append_left _ (List.mem_append_right _ (List.mem_append_right _ (List.mem_append_right _ (List.mem_append_left _ h)))))))))))
  rcases List.mem_cons.mp hl with e | hl
  · rw [e]
    exact fun w h => List.mem_cons_of_mem _ (List.mem_append_left _ (List.mem_append_left _ (List.mem_append_left _ (List.mem_append_left _ (List.mem_append_left _ (List.mem_append_left _ (List.mem_append_left _ (List.mem_append_right _ (List.mem_append_right _ (List.mem_append_right _ (List.mem_append_right _ (List.mem_append_left _ h))))))))))))
  rcases List.mem_cons.mp hl with e | hl
  · rw [e]
    exact fun w h => List.mem_cons_of_mem _ (List.mem_append_left _ (List.mem_append_left _ (List.mem_append_left _ (List.mem_append_left _ (List.mem_append_left _ (List.mem_append_left _ (List.mem_append_left _ (List.mem_append_right _ (List.mem_append_right _ (List.mem_append_right _ (List.mem_append_right _ (List.mem_append_right _ (List.mem_append_left _ h)))))))))))))
  rcases List.mem_cons.mp hl with e | hl
  · rw [e]
    exact fun w h => List.mem_cons_of_mem _ (List.mem_append_left _ (List.mem_append_left _ (List.mem_append_left _ (List.mem_append_left _ (List.mem_append_left _ (List.mem_append_left _ (List.mem_append_left _ (List.mem_append_right _ (List.mem_append_right _ (List.mem_append_right _ (List.mem_append_right _ (List.mem_append_right _ (List.mem_append_right _ (List.mem_append_left _ h))))))))))))))
  rcases List.mem_cons.mp hl with e | hl
  · rw [e]
    exact fun w h => List.mem_cons_of_mem _ (List.mem_append_left _ (List.mem_append_left _ (List.mem_append_left _ (List.mem_append_left _ (List.mem_append_left _ (List.mem_append_left _ (List.mem_append_left _ (List.mem_append_right _ (List.mem_append_right _ (List.mem_append_right _ (List.mem_append_right _ (List.mem_append_right _ (List.mem_append_right _ (List.mem_append_right _ h))))))))))))))
  rcases List.mem_cons.mp hl with e | hl
  · rw [e]
    exact fun w h => List.mem_cons_of_mem _ (List.mem_append_left _ (List.mem_append_left _ (List.mem_append_left _ (List.mem_append_left _ (List.mem_append_left _ (List.mem_append_left _ (List.mem_append_right _ h)))))))
  rcases List.mem_cons.mp hl with e | hl
  · rw [e]
    exact fun w h => List.mem_cons_of_mem _ (List.mem_append_left _ (List.mem_append_left _ (List.mem_append_left _ (List.mem_append_left _ (List.mem_append_left _ (List.mem_append_right _ h))))))
  rcases List.mem_cons.mp hl with e | hl
  · rw [e]
    exact fun w h => List.mem_cons_of_mem _ (List.mem_append_left _ (List.mem_append_left _ (List.mem_append_left _ (List.mem_append_left _ (List.mem_append_right _ h)))))
  rcases List.mem_cons.mp hl with e | hl
  · rw [e]
    exact fun w h => List.mem_cons_of_mem _ (List.mem_append_left _ (List.mem_append_left _ (List.mem_append_left _ (List.mem_append_right _ h))))
  rcases List.mem_cons.mp hl with e | hl
  · rw [e]
    exact fun w h => List.mem_cons_of_mem _ (List.mem_append_left _ (List.mem_append_left _ (List.mem_append_right _ h)))
  rcases List.mem_cons.mp hl with e | hl
  · rw [e]
    exact fun w h => List.mem_cons_of_mem _ (List.mem_append_left _ (List.mem_append_right _ h))
  rcases List.mem_cons.mp hl with e | hl
  · rw [e]
    exact fun w h => List.mem_cons_of_mem _ (List.mem_append_right _ h)
  cases hl
theorem zB_X11_front_X90 : ∀ w ∈ wsX90, w ∈ wsX11_front := fun _ h => List.mem_cons_of_mem _ (List.mem_append_left _ (List.mem_append_left _ (List.mem_append_left _ (List.mem_append_left _ (List.mem_append_right _ h)))))
theorem zB_X11_front_X40 : ∀ w ∈ wsX40, w ∈ wsX11_front := fun _ h => List.mem_cons_of_mem _ (List.mem_append_left _ (List.mem_append_left _ (List.mem_append_left _ (List.mem_append_right _ h))))
set_option maxRecDepth 100000 in
theorem ggX11_front_X9_isAnswer : GoodIn wsX11_front wsX9_isAnswer := goodIn_hd (goodIn_c zc_wsX11_front_in [(0, 11)] rfl (by decide +kernel)) (goodIn_app (goodIn_app (goodIn_c zc_wsX11_front_in [(0, 12), (0, 13), (0, 14), (0, 15), (0, 16), (0, 10), (0, 17), (0, 18)] rfl (by decide +kernel)) (goodIn_sub zB_X11_front_X90 zgw_X90)) (goodIn_sub zB_X11_front_X40 zgw_X40))
set_option maxRecDepth 100000 in
theorem gX11_front_X9_isAnswer : GoodIn wsX11_front (wsV RX11 251 RX9 yX9_isAnswer wsX9_isAnswer) := goodIn_app (goodIn_r _ [8, 9, 10, 11] rfl (by decide +kernel)) ggX11_front_X9_isAnswer
theorem zB_X11_front_X20 : ∀ w ∈ wsX20, w ∈ wsX11_front := fun _ h => List.mem_cons_of_mem _ (List.mem_append_left _ (List.mem_append_left _ (List.mem_append_right _ h)))
theorem zB_X11_front_X10 : ∀ w ∈ wsX10, w ∈ wsX11_front := fun _ h => List.mem_cons_of_mem _ (List.mem_append_left _ (List.mem_append_left _ (List.mem_append_left _ (List.mem_append_left _ (List.mem_append_left _ (List.mem_append_right _ h))))))
theorem zB_X11_front_X70 : ∀ w ∈ wsX70, w ∈ wsX11_front := fun _ h => List.mem_cons_of_mem _ (List.mem_append_left _ (List.mem_append_right _ h))
theorem zB_X11_front_X60 : ∀ w ∈ wsX60, w ∈ wsX11_front := fun _ h => List.mem_cons_of_mem _ (List.mem_append_right _ h)
set_option maxRecDepth 100000 in
theorem ggX11_front_X1_search : GoodIn wsX11_front wsX1_search := goodIn_hd (goodIn_c zc_wsX11_front_in [(0, 23)] rfl (by decide +kernel)) (goodIn_app (goodIn_app (goodIn_app (goodIn_app (goodIn_app (goodIn_app (goodIn_app (goodIn_c zc_wsX11_front_in [(1, 0), (1, 1), (1, 2), (1, 3), (1, 4), (1, 5), (1, 6), (1, 7), (1, 8), (1, 9), (0, 10), (1, 10), (0, 12), (0, 18), (1, 11), (1, 12), (1, 13), (1, 14), (1, 15), (0, 22), (1, 16), (1, 17), (1, 18), (1, 19)] rfl (by decide +kernel)) (goodIn_app (goodIn_c zc_wsX11_front_in [(1, 20), (1, 21), (1, 22), (1, 23), (2, 0), (2, 1), (2, 2), (2, 3), (2, 4), (2, 5), (2, 6), (2, 7), (2, 8), (2, 9), (2, 10), (2, 11), (2, 12), (2, 13), (2, 14), (2, 15), (2, 16), (2, 17), (2, 18), (2, 19)] rfl (by decide +kernel)) (goodIn_app (goodIn_c zc_wsX11_front_in [(2, 20), (2, 21), (2, 22), (2, 23), (3, 0), (3, 1), (3, 2), (3, 3), (3, 4), (3, 5), (3, 6), (3, 7), (3, 8), (3, 9), (3, 10), (3, 11), (3, 12), (3, 13), (3, 14), (3, 15), (3, 16), (3, 17), (3, 18), (3, 19)] rfl (by decide +kernel)) (goodIn_app (goodIn_c zc_wsX11_front_in [(3, 20), (3, 21), (3, 22), (3, 23), (4, 0), (4, 1), (4, 2), (4, 3), (4, 4), (4, 5), (4, 6), (4, 7), (4, 8), (4, 9), (4, 10), (4, 11), (4, 12), (4, 13), (4, 14), (4, 15), (4, 16), (4, 17), (4, 18), (4, 19)] rfl (by decide +kernel)) (goodIn_app (goodIn_c zc_wsX11_front_in [(4, 20), (4, 21), (4, 22), (4, 23), (5, 0), (5, 1), (5, 2), (5, 3), (5, 4), (5, 5), (5, 6), (5, 7), (5, 8), (5, 9), (5, 10), (5, 11), (5, 12), (5, 13), (5, 14), (5, 15), (5, 16), (5, 17), (5, 18), (5, 19)] rfl (by decide +kernel)) (goodIn_app (goodIn_c zc_wsX11_front_in [(5, 20), (0, 8), (0, 9), (0, 11), (0, 13), (0, 14), (0, 15), (0, 16), (0, 17), (5, 21), (5, 22), (5, 23), (6, 0), (6, 1), (6, 2), (6, 3), (6, 4), (6, 5), (6, 6), (6, 7), (6, 8), (6, 9), (6, 10), (6, 11)] rfl (by decide +kernel)) (goodIn_c zc_wsX11_front_in [(6, 12), (6, 13), (6, 14), (6, 15), (6, 16), (6, 17), (6, 18), (6, 19)] rfl (by decide +kernel)))))))) (goodIn_sub zB_X11_front_X90 zgw_X90)) (goodIn_sub zB_X11_front_X40 zgw_X40)) (goodIn_sub zB_X11_front_X20 zgw_X20)) (goodIn_sub zB_X11_front_X10 zgw_X10)) (goodIn_sub zB_X11_front_X70 zgw_X70)) (goodIn_sub zB_X11_front_X60 zgw_X60))
set_option maxRecDepth 100000 in
theorem gX11_front_X1_search : GoodIn wsX11_front (wsV RX11 273 RX1 yX1_search wsX1_search) := goodIn_app (goodIn_r _ [20, 21, 22, 23] rfl (by decide +kernel)) ggX11_front_X1_search
set_option maxRecDepth 100000 in
theorem ggX11_front_X1_drawFront : GoodIn wsX11_front wsX1_drawFront := goodIn_hd (goodIn_c zc_wsX11_front_in [(6, 23)] rfl (by decide +kernel)) (goodIn_app (goodIn_app (goodIn_app (goodIn_app (goodIn_c zc_wsX11_front_in [(7, 0), (7, 1), (1, 0), (7, 2), (1, 5), (2, 11), (2, 9), (2, 12), (2, 13), (1, 22), (1, 23), (2, 0), (2, 1), (2, 2), (2, 3), (2, 4), (7, 3), (7, 4), (7, 5), (0, 22), (7, 6), (7, 7), (7, 8), (7, 9)] rfl (by decide +kernel)) (goodIn_c zc_wsX11_front_in [(7, 10), (1, 18), (2, 14), (7, 11), (7, 12), (7, 13), (7, 14)] rfl (by decide +kernel))) (goodIn_sub zB_X11_front_X10 zgw_X10)) (goodIn_sub zB_X11_front_X90 zgw_X90)) (goodIn_sub zB_X11_front_X40 zgw_X40))
set_option maxRecDepth 100000 in
theorem gX11_front_X1_drawFront : GoodIn wsX11_front (wsV RX11 326 RX1 yX1_drawFront wsX1_drawFront) := goodIn_app (goodIn_r _ [165, 166, 167, 23] rfl (by decide +kernel)) ggX11_front_X1_drawFront
noncomputable def zc_wsX11_least : List (List Cond) := [wsX11_least_r1, wsX11_least_r2, wsX11_least_r3, wsX11_least_r4, wsX11_least_r5, wsX11_least_r6, wsX11_least_r7, wsX11_least_r8, wsX110, wsX90, wsX40, wsX20, wsX10, wsX70, wsX60]
set_option maxRecDepth 20000 in
theorem zc_wsX11_least_in : ∀ l ∈ zc_wsX11_least, ∀ w ∈ l, w ∈ wsX11_least := by
  intro l hl
  unfold zc_wsX11_least at hl
  rcases List.mem_cons.mp hl with e | hl
  · rw [e]
    exact fun w h => List.mem_cons_of_mem _ (List.mem_append_left _ (List.mem_append_left _ (List.mem_append_left _ (List.mem_append_left _ (List.mem_append_left _ (List.mem_append_left _ (List.mem_append_left _ (List.mem_append_left _ h))))))))
  rcases List.mem_cons.mp hl with e | hl
  · rw [e]
    exact fun w h => List.mem_cons_of_mem _ (List.mem_append_left _ (List.mem_append_left _ (List.mem_append_left _ (List.mem_append_left _ (List.mem_append_left _ (List.mem_append_left _ (List.mem_append_left _ (List.mem_append_right _ (List.mem_append_left _ h)))))))))
  rcases List.mem_cons.mp hl with e | hl
  · rw [e]
    exact fun w h => List.mem_cons_of_mem _ (List.mem_append_left _ (List.mem_append_left _ (List.mem_append_left _ (List.mem_append_left _ (List.mem_append_left _ (List.mem_append_left _ (List.mem_append_left _ (List.mem_append_right _ (List.mem_append_right _ (List.mem_append_left _ h))))))))))
  rcases List.mem_cons.mp hl with e | hl
  · rw [e]
    exact fun w h => List.mem_cons_of_mem _ (List.mem_append_left _ (List.mem_append_left _ (List.mem_append_left _ (List.mem_append_left _ (List.mem_append_left _ (List.mem_append_left _ (List.mem_append_left _ (List.mem_append_right _ (List.mem_append_right _ (List.mem_append_right _ (List.mem_append_left _ h)))))))))))
  rcases List.mem_cons.mp hl with e | hl
  · rw [e]
    exact fun w h => List.mem_cons_of_mem _ (List.mem_append_left _ (List.mem_append_left _ (List.mem_append_left _ (List.mem_append_left _ (List.mem_append_left _ (List.mem_append_left _ (List.mem_append_left _ (List.mem_append_right _ (List.mem_append_right _ (List.mem_append_right _ (List.mem_append_right _ (List.mem_append_left _ h))))))))))))
  rcases List.mem_cons.mp hl with e | hl
  · rw [e]
    exact fun w h => List.mem_cons_of_mem _ (List.mem_append_left _ (List.mem_append_left _ (List.mem_append_left _ (List.mem_append_left _ (List.mem_append_left _ (List.mem_append_left _ (List.mem_append_left _ (List.mem_append_right _ (List.mem_append_right _ (List.mem_append_right _ (List.mem_append_right _ (List.mem_append_right _ (List.mem_append_left _ h)))))))))))))
  rcases List.mem_cons.mp hl with e | hl
  · rw [e]
    exact fun w h => List.mem_cons_of_mem _ (List.mem_append_left _ (List.mem_append_left _ (List.mem_append_left _ (List.mem_append_left _ (List.mem_append_left _ (List.mem_append_left _ (List.mem_append_left _ (List.mem_append_right _ (List.mem_append_right _ (List.mem_append_right _ (List.mem_append_right _ (List.mem_append_right _ (List.mem_append_right _ (List.mem_append_left _ h))))))))))))))
  rcases List.mem_cons.mp hl with e | hl
  · rw [e]
    exact fun w h => List.mem_cons_of_mem _ (List.mem_append_left _ (List.mem_append_left _ (List.mem_append_left _ (List.mem_append_left _ (List.mem_append_left _ (List.mem_append_left _ (List.mem_append_left _ (List.mem_append_right _ (List.mem_append_right _ (List.mem_append_right _ (List.mem_append_right _ (List.mem_append_right _ (List.mem_append_right _ (List.mem_append_right _ h))))))))))))))
  rcases List.mem_cons.mp hl with e | hl
  · rw [e]
    exact fun w h => List.mem_cons_of_mem _ (List.mem_append_left _ (List.mem_append_left _ (List.mem_append_left _ (List.mem_append_left _ (List.mem_append_left _ (List.mem_append_left _ (List.mem_append_right _ h)))))))
  rcases List.mem_cons.mp hl with e | hl
  · rw [e]
    exact fun w h => List.mem_cons_of_mem _ (List.mem_append_left _ (List.mem_append_left _ (List.mem_append_left _ (List.mem_append_left _ (List.mem_append_left _ (List.mem_append_right _ h))))))
  rcases List.mem_cons.mp hl with e | hl
  · rw [e]
    exact fun w h => List.mem_cons_of_mem _ (List.mem_append_left _ (List.mem_append_left _ (List.mem_append_left _ (List.mem_append_left _ (List.mem_append_right _ h)))))
  rcases List.mem_cons.mp hl with e | hl
  · rw [e]
    exact fun w h => List.mem_cons_of_mem _ (List.mem_append_left _ (List.mem_append_left _ (List.mem_append_left _ (List.mem_append_right _ h))))
  rcases List.mem_cons.mp hl with e | hl
  · rw [e]
    exact fun w h => List.mem_cons_of_mem _ (List.mem_append_left _ (List.mem_append_left _ (List.mem_append_right _ h)))
  rcases List.mem_cons.mp hl with e | hl
  · rw [e]
    exact fun w h => List.mem_cons_of_mem _ (List.mem_append_left _ (List.mem_append_right _ h))
  rcases List.mem_cons.mp hl with e | hl
  · rw [e]
    exact fun w h => List.mem_cons_of_mem _ (List.mem_append_right _ h)
  cases hl
theorem zB_X11_least_X90 : ∀ w ∈ wsX90, w ∈ wsX11_least := fun _ h => List.mem_cons_of_mem _ (List.mem_append_left _ (List.mem_append_left _ (List.mem_append_left _ (List.mem_append_left _ (List.mem_append_left _ (List.mem_append_right _ h))))))
theorem zB_X11_least_X40 : ∀ w ∈ wsX40, w ∈ wsX11_least := fun _ h => List.mem_cons_of_mem _ (List.mem_append_left _ (List.mem_append_left _ (List.mem_append_left _ (List.mem_append_left _ (List.mem_append_right _ h)))))
set_option maxRecDepth 100000 in
theorem ggX11_least_X9_isAnswer : GoodIn wsX11_least wsX9_isAnswer := goodIn_hd (goodIn_c zc_wsX11_least_in [(0, 7)] rfl (by decide +kernel)) (goodIn_app (goodIn_app (goodIn_c zc_wsX11_least_in [(0, 8), (0, 9), (0, 10), (0, 11), (0, 12), (0, 6), (0, 13), (0, 14)] rfl (by decide +kernel)) (goodIn_sub zB_X11_least_X90 zgw_X90)) (goodIn_sub zB_X11_least_X40 zgw_X40))
set_option maxRecDepth 100000 in
theorem gX11_least_X9_isAnswer : GoodIn wsX11_least (wsV RX11 251 RX9 yX9_isAnswer wsX9_isAnswer) := goodIn_app (goodIn_r _ [4, 5, 6, 7] rfl (by decide +kernel)) ggX11_least_X9_isAnswer
theorem zB_X11_least_X20 : ∀ w ∈ wsX20, w ∈ wsX11_least := fun _ h => List.mem_cons_of_mem _ (List.mem_append_left _ (List.mem_append_left _ (List.mem_append_left _ (List.mem_append_right _ h))))
theorem zB_X11_least_X10 : ∀ w ∈ wsX10, w ∈ wsX11_least := fun _ h => List.mem_cons_of_mem _ (List.mem_append_left _ (List.mem_append_left _ (List.mem_append_right _ h)))
theorem zB_X11_least_X70 : ∀ w ∈ wsX70, w ∈ wsX11_least := fun _ h => List.mem_cons_of_mem _ (List.mem_append_left _ (List.mem_append_right _ h))
theorem zB_X11_least_X60 : ∀ w ∈ wsX60, w ∈ wsX11_least := fun _ h => List.mem_cons_of_mem _ (List.mem_append_right _ h)
set_option maxRecDepth 100000 in
theorem ggX11_least_X1_search : GoodIn wsX11_least wsX1_search := goodIn_hd (goodIn_c zc_wsX11_least_in [(0, 19)] rfl (by decide +kernel)) (goodIn_app (goodIn_app (goodIn_app (goodIn_app (goodIn_app (goodIn_app (goodIn_app (goodIn_c zc_wsX11_least_in [(0, 20), (0, 21), (0, 22), (0, 23), (1, 0), (1, 1), (1, 2), (1, 3), (1, 4), (1, 5), (0, 6), (1, 6), (0, 8), (0, 14), (1, 7), (1, 8), (1, 9), (1, 10), (1, 11), (0, 18), (1, 12), (1, 13), (1, 14), (1, 15)] rfl (by decide +kernel)) (goodIn_app (goodIn_c zc_wsX11_least_in [(1, 16), (1, 17), (1, 18), (1, 19), (1, 20), (1, 21), (1, 22), (1, 23), (2, 0), (2, 1), (2, 2), (2, 3), (2, 4), (2, 5), (2, 6), (2, 7), (2, 8), (2, 9), (2, 10), (2, 11), (2, 12), (2, 13), (2, 14), (2, 15)] rfl (by decide +kernel)) (goodIn_app (goodIn_c zc_wsX11_least_in [(2, 16), (2, 17), (2, 18), (2, 19), (2, 20), (2, 21), (2, 22), (2, 23), (3, 0), (3, 1), (3, 2), (3, 3), (3, 4), (3, 5), (3, 6), (3, 7), (3, 8), (3, 9), (3, 10), (3, 11), (3, 12), (3, 13), (3, 14), (3, 15)] rfl (by decide +kernel)) (goodIn_app (goodIn_c zc_wsX11_least_in [(3, 16), (3, 17), (3, 18), (3, 19), (3, 20), (3, 21), (3, 22), (3, 23), (4, 0), (4, 1), (4, 2), (4, 3), (4, 4), (4, 5), (4, 6), (4, 7), (4, 8), (4, 9), (4, 10), (4, 11), (4, 12), (4, 13), (4, 14), (4, 15)] rfl (by decide +kernel)) (goodIn_app (goodIn_c zc_wsX11_least_in [(4, 16), (4, 17), (4, 18), (4, 19), (4, 20), (4, 21), (4, 22), (4, 23), (5, 0), (5, 1), (5, 2), (5, 3), (5, 4), (5, 5), (5, 6), (5, 7), (5, 8), (5, 9), (5, 10), (5, 11), (5, 12), (5, 13), (5, 14), (5, 15)] rfl (by decide +kernel)) (goodIn_app (goodIn_c zc_wsX11_least_in [(5, 16), (0, 4), (0, 5), (0, 7), (0, 9), (0, 10), (0, 11), (0, 12), (0, 13), (5, 17), (5, 18), (5, 19), (5, 20), (5, 21), (5, 22), (5, 23), (6, 0), (6, 1), (6, 2), (6, 3), (6, 4), (6, 5), (6, 6), (6, 7)] rfl (by decide +kernel)) (goodIn_c zc_wsX11_least_in [(6, 8), (6, 9), (6, 10), (6, 11), (6, 12), (6, 13), (6, 14), (6, 15)] rfl (by decide +kernel)))))))) (goodIn_sub zB_X11_least_X90 zgw_X90)) (goodIn_sub zB_X11_least_X40 zgw_X40)) (goodIn_sub zB_X11_least_X20 zgw_X20)) (goodIn_sub zB_X11_least_X10 zgw_X10)) (goodIn_sub zB_X11_least_X70 zgw_X70)) (goodIn_sub zB_X11_least_X60 zgw_X60))
set_option maxRecDepth 100000 in
theorem gX11_least_X1_search : GoodIn wsX11_least (wsV RX11 273 RX1 yX1_search wsX1_search) := goodIn_app (goodIn_r _ [16, 17, 18, 19] rfl (by decide +kernel)) ggX11_least_X1_search
set_option maxRecDepth 100000 in
theorem ggX11_least_X1_leastWithin : GoodIn wsX11_least wsX1_leastWithin := goodIn_hd (goodIn_c zc_wsX11_least_in [(6, 19)] rfl (by decide +kernel)) (goodIn_app (goodIn_app (goodIn_app (goodIn_c zc_wsX11_least_in [(0, 20), (6, 20), (1, 1), (2, 5), (1, 18), (1, 19), (1, 20), (1, 21), (1, 22), (1, 23), (2, 0), (6, 21), (6, 22), (6, 23), (0, 18), (7, 0), (1, 14), (2, 10), (7, 1)] rfl (by decide +kernel)) (goodIn_sub zB_X11_least_X90 zgw_X90)) (goodIn_sub zB_X11_least_X10 zgw_X10)) (goodIn_sub zB_X11_least_X40 zgw_X40))
set_option maxRecDepth 100000 in
theorem gX11_least_X1_leastWithin : GoodIn wsX11_least (wsV RX11 342 RX1 yX1_leastWithin wsX1_leastWithin) := goodIn_app (goodIn_r _ [161, 162, 163, 19] rfl (by decide +kernel)) ggX11_least_X1_leastWithin
noncomputable def zc_wsX11_certificate : List (List Cond) := [wsX11_certificate_r1, wsX11_certificate_r2, wsX11_certificate_r3, wsX11_certificate_r4, wsX11_certificate_r5, wsX110, wsX90, wsX40, wsX60, wsX70, wsX20]
set_option maxRecDepth 20000 in
theorem zc_wsX11_certificate_in : ∀ l ∈ zc_wsX11_certificate, ∀ w ∈ l, w ∈ wsX11_certificate := by
  intro l hl
  unfold zc_wsX11_certificate at hl
  rcases List.mem_cons.mp hl with e | hl
  · rw [e]
    exact fun w h => List.mem_cons_of_mem _ (List.mem_append_left _ (List.mem_append_left _ (List.mem_append_left _ (List.mem_append_left _ (List.mem_append_left _ (List.mem_append_left _ (List.mem_append_left _ h)))))))
  rcases List.mem_cons.mp hl with e | hl
  · rw [e]
    exact fun w h => List.mem_cons_of_mem _ (List.mem_append_left _ (List.mem_append_left _ (List.mem_append_left _ (List.mem_append_left _ (List.mem_append_left _ (List.mem_append_left _ (List.mem_append_right _ (List.mem_append_left _ h))))))))
  rcases List.mem_cons.mp hl with e | hl
  · rw [e]
    exact fun w h => List.mem_cons_of_mem _ (List.mem_append_left _ (List.mem_append_left _ (List.mem_append_left _ (List.mem_append_left _ (List.mem_append_left _ (List.mem_append_left _ (List.mem_append_right _ (List.mem_append_right _ (List.mem_append_left _ h)))))))))
  rcases List.mem_cons.mp hl with e | hl
  · rw [e]
    exact fun w h => List.mem_cons_of_mem _ (List.mem_append_left _ (List.mem_append_left _ (List.mem_append_left _ (List.mem_append_left _ (List.mem_append_left _ (List.mem_append_left _ (List.mem_append_right _ (List.mem_append_right _ (List.mem_append_right _ (List.mem_append_left _ h))))))))))
  rcases List.mem_cons.mp hl with e | hl
  · rw [e]
    exact fun w h => List.mem_cons_of_mem _ (List.mem_append_left _ (List.mem_append_left _ (List.mem_append_left _ (List.mem_append_left _ (List.mem_append_left _ (List.mem_append_left _ (List.mem_append_right _ (List.mem_append_right _ (List.mem_append_right _ (List.mem_append_right _ h))))))))))
  rcases List.mem_cons.mp hl with e | hl
  · rw [e]
    exact fun w h => List.mem_cons_of_mem _ (List.mem_append_left _ (List.mem_append_left _ (List.mem_append_left _ (List.mem_append_left _ (List.mem_append_left _ (List.mem_append_right _ h))))))
  rcases List.mem_cons.mp hl with e | hl
  · rw [e]
    exact fun w h => List.mem_cons_of_mem _ (List.mem_append_left _ (List.mem_append_left _ (List.mem_append_left _ (List.mem_append_left _ (List.mem_append_right _ h)))))
  rcases List.mem_cons.mp hl with e | hl
  · rw [e]
    exact fun w h => List.mem_cons_of_mem _ (List.mem_append_left _ (List.mem_append_left _ (List.mem_append_left _ (List.mem_append_right _ h))))
  rcases List.mem_cons.mp hl with e | hl
  · rw [e]
    exact fun w h => List.mem_cons_of_mem _ (List.mem_append_left _ (List.mem_append_left _ (List.mem_append_right _ h)))
  rcases List.mem_cons.mp hl with e | hl
  · rw [e]
    exact fun w h => List.mem_cons_of_mem _ (List.mem_append_left _ (List.mem_append_right _ h))
  rcases List.mem_cons.mp hl with e | hl
  · rw [e]
    exact fun w h => List.mem_cons_of_mem _ (List.mem_append_right _ h)
  cases hl
theorem zB_X11_certificate_X110 : ∀ w ∈ wsX110, w ∈ wsX11_certificate := fun _ h => List.mem_cons_of_mem _ (List.mem_append_left _ (List.mem_append_left _ (List.mem_append_left _ (List.mem_append_left _ (List.mem_append_left _ (List.mem_append_right _ h))))))
theorem zB_X11_certificate_X90 : ∀ w ∈ wsX90, w ∈ wsX11_certificate := fun _ h => List.mem_cons_of_mem _ (List.mem_append_left _ (List.mem_append_left _ (List.mem_append_left _ (List.mem_append_left _ (List.mem_append_right _ h)))))
theorem zB_X11_certificate_X40 : ∀ w ∈ wsX40, w ∈ wsX11_certificate := fun _ h => List.mem_cons_of_mem _ (List.mem_append_left _ (List.mem_append_left _ (List.mem_append_left _ (List.mem_append_right _ h))))
theorem zB_X11_certificate_X20 : ∀ w ∈ wsX20, w ∈ wsX11_certificate := fun _ h => List.mem_cons_of_mem _ (List.mem_append_right _ h)
theorem zB_X11_certificate_X70 : ∀ w ∈ wsX70, w ∈ wsX11_certificate := fun _ h => List.mem_cons_of_mem _ (List.mem_append_left _ (List.mem_append_right _ h))
theorem zB_X11_certificate_X60 : ∀ w ∈ wsX60, w ∈ wsX11_certificate := fun _ h => List.mem_cons_of_mem _ (List.mem_append_left _ (List.mem_append_left _ (List.mem_append_right _ h)))
set_option maxRecDepth 100000 in
theorem ggX11_certificate_X11_handPasses : GoodIn wsX11_certificate wsX11_handPasses := goodIn_hd (goodIn_c zc_wsX11_certificate_in [(0, 13)] rfl (by decide +kernel)) (goodIn_app (goodIn_app (goodIn_app (goodIn_app (goodIn_app (goodIn_app (goodIn_app (goodIn_c zc_wsX11_certificate_in [(0, 0), (0, 7), (0, 4), (0, 3), (0, 14), (0, 15), (0, 16), (0, 17), (0, 18), (0, 19), (0, 20), (0, 21), (0, 22), (0, 23), (1, 0), (1, 1), (1, 2), (1, 3), (1, 4), (1, 5), (1, 6), (1, 7), (1, 8), (1, 9)] rfl (by decide +kernel)) (goodIn_app (goodIn_c zc_wsX11_certificate_in [(1, 10), (1, 11), (1, 12), (1, 13), (1, 14), (1, 15), (1, 16), (1, 17), (1, 18), (1, 19), (1, 20), (1, 21), (1, 22), (1, 23), (2, 0), (2, 1), (2, 2), (2, 3), (2, 4), (2, 5), (2, 6), (2, 7), (2, 8), (2, 9)] rfl (by decide +kernel)) (goodIn_app (goodIn_c zc_wsX11_certificate_in [(2, 10), (2, 11), (2, 12), (2, 13), (2, 14), (2, 15), (2, 16), (2, 17), (2, 18), (2, 19), (2, 20), (2, 21), (2, 22), (2, 23), (3, 0), (0, 12), (3, 1), (3, 2), (3, 3), (3, 4), (3, 5), (3, 6), (3, 7), (3, 8)] rfl (by decide +kernel)) (goodIn_c zc_wsX11_certificate_in [(3, 9), (3, 10), (3, 11), (3, 12), (3, 13), (3, 14), (3, 15), (3, 16), (3, 17), (3, 18), (3, 19), (3, 20), (3, 21), (3, 22), (3, 23), (4, 0), (4, 1), (4, 2), (4, 3), (4, 4), (4, 5), (4, 6), (4, 7), (4, 8)] rfl (by decide +kernel))))) (goodIn_sub zB_X11_certificate_X110 zgw_X110)) (goodIn_sub zB_X11_certificate_X90 zgw_X90)) (goodIn_sub zB_X11_certificate_X40 zgw_X40)) (goodIn_sub zB_X11_certificate_X20 zgw_X20)) (goodIn_sub zB_X11_certificate_X70 zgw_X70)) (goodIn_sub zB_X11_certificate_X60 zgw_X60))
set_option maxRecDepth 100000 in
theorem gX11_certificate_X11_handPasses : GoodIn wsX11_certificate (wsV RX11 254 RX11 yX11_handPasses wsX11_handPasses) := goodIn_app (goodIn_r _ [10, 11, 12, 13] rfl (by decide +kernel)) ggX11_certificate_X11_handPasses
set_option maxRecDepth 100000 in
theorem ggX11_certificate_X9_formatOf : GoodIn wsX11_certificate wsX9_formatOf := goodIn_hd (goodIn_c zc_wsX11_certificate_in [(2, 0)] rfl (by decide +kernel)) (goodIn_app (goodIn_app (goodIn_app (goodIn_c zc_wsX11_certificate_in [(0, 19), (0, 20), (0, 21), (2, 1)] rfl (by decide +kernel)) (goodIn_sub zB_X11_certificate_X90 zgw_X90)) (goodIn_sub zB_X11_certificate_X40 zgw_X40)) (goodIn_sub zB_X11_certificate_X20 zgw_X20))
set_option maxRecDepth 100000 in
theorem gX11_certificate_X9_formatOf : GoodIn wsX11_certificate (wsV RX11 224 RX9 yX9_formatOf wsX9_formatOf) := goodIn_app (goodIn_r _ [106, 47, 48, 18] rfl (by decide +kernel)) ggX11_certificate_X9_formatOf
set_option maxRecDepth 100000 in
theorem ggX11_certificate_X11_byteOf : GoodIn wsX11_certificate wsX11_byteOf := goodIn_r _ [109, 110] rfl (by decide +kernel)
set_option maxRecDepth 100000 in
theorem gX11_certificate_X11_byteOf : GoodIn wsX11_certificate (va_wsS RX11 346 yX11_byteOf wsX11_byteOf) := goodIn_app (goodIn_r _ [107, 108, 13] rfl (by decide +kernel)) ggX11_certificate_X11_byteOf
noncomputable def zc_wsX11_check : List (List Cond) := [wsX11_check_r1, wsX11_check_r2, wsX11_check_r3, wsX11_check_r4, wsX11_check_r5, wsX11_check_r6, wsX11_check_r7, wsX11_check_r8, wsX110, wsX90, wsX40, wsX00, wsX20, wsX60, wsX70]
set_option maxRecDepth 20000 in
theorem zc_wsX11_check_in : ∀ l ∈ zc_wsX11_check, ∀ w ∈ l, w ∈ wsX11_check := by
  intro l hl
  unfold zc_wsX11_check at hl
  rcases List.mem_cons.mp hl with e | hl
  · rw [e]
    exact fun w h => List.mem_cons_of_mem _ (List.mem_append_left _ (List.mem_append_left _ (List.mem_append_left _ (List.mem_append_left _ (List.mem_append_left _ (List.mem_append_left _ (List.mem_append_left _ (List.mem_append_left _ h))))))))
  rcases List.mem_cons.mp hl with e | hl
  · rw [e]
    exact fun w h => List.mem_cons_of_mem _ (List.mem_append_left _ (List.mem_append_left _ (List.mem_append_left _ (List.mem_append_left _ (List.mem_append_left _ (List.mem_append_left _ (List.mem_append_left _ (List.mem_append_right _ (List.mem_append_left _ h)))))))))
  rcases List.mem_cons.mp hl with e | hl
  · rw [e]
    exact fun w h => List.mem_cons_of_mem _ (List.mem_append_left _ (List.mem_append_left _ (List.mem_append_left _ (List.mem_append_left _ (List.mem_append_left _ (List.mem_append_left _ (List.mem_append_left _ (List.mem_append_right _ (List.mem_append_right _ (List.mem_append_left _ h))))))))))
  rcases List.mem_cons.mp hl with e | hl
  · rw [e]
    exact fun w h => List.mem_cons_of_mem _ (List.mem_append_left _ (List.mem_append_left _ (List.mem_append_left _ (List.mem_append_left _ (List.mem_append_left _ (List.mem_append_left _ (List.mem_append_left _ (List.mem_append_right _ (List.mem_append_right _ (List.mem_append_right _ (List.mem_append_left _ h)))))))))))
  rcases List.mem_cons.mp hl with e | hl
  · rw [e]
    exact fun w h => List.mem_cons_of_mem _ (List.mem_append_left _ (List.mem_append_left _ (List.mem_append_left _ (List.mem_append_left _ (List.mem_append_left _ (List.mem_append_left _ (List.mem_append_left _ (List.mem_append_right _ (List.mem_append_right _ (List.mem_append_right _ (List.mem_append_right _ (List.mem_append_left _ h))))))))))))
  rcases List.mem_cons.mp hl with e | hl
  · rw [e]
    exact fun w h => List.mem_cons_of_mem _ (List.mem_append_left _ (List.mem_append_left _ (List.mem_append_left _ (List.mem_append_left _ (List.mem_append_left _ (List.mem_append_left _ (List.mem_append_left _ (List.mem_append_right _ (List.mem_append_right _ (List.mem_append_right _ (List.mem_append_right _ (List.mem_append_right _ (List.mem_append_left _ h)))))))))))))
  rcases List.mem_cons.mp hl with e | hl
  · rw [e]
    exact fun w h => List.mem_cons_of_mem _ (List.mem_append_left _ (List.mem_append_left _ (List.mem_append_left _ (List.mem_append_left _ (List.mem_append_left _ (List.mem_append_left _ (List.mem_append_left _ (List.mem_append_right _ (List.mem_append_right _ (List.mem_append_right _ (List.mem_append_right _ (List.mem_append_right _ (List.mem_append_right _ (List.mem_append_left _ h))))))))))))))
  rcases List.mem_cons.mp hl with e | hl
  · rw [e]
    exact fun w h => List.mem_cons_of_mem _ (List.mem_append_left _ (List.mem_append_left _ (List.mem_append_left _ (List.mem_append_left _ (List.mem_append_left _ (List.mem_append_left _ (List.mem_append_left _ (List.mem_append_right _ (List.mem_append_right _ (List.mem_append_right _ (List.mem_append_right _ (List.mem_append_right _ (List.mem_append_right _ (List.mem_append_right _ h))))))))))))))
  rcases List.mem_cons.mp hl with e | hl
  · rw [e]
    exact fun w h => List.mem_cons_of_mem _ (List.mem_append_left _ (List.mem_append_left _ (List.mem_append_left _ (List.mem_append_left _ (List.mem_append_left _ (List.mem_append_left _ (List.mem_append_right _ h)))))))
  rcases List.mem_cons.mp hl with e | hl
  · rw [e]
    exact fun w h => List.mem_cons_of_mem _ (List.mem_append_left _ (List.mem_append_left _ (List.mem_append_left _ (List.mem_append_left _ (List.mem_append_left _ (List.mem_append_right _ h))))))
  rcases List.mem_cons.mp hl with e | hl
  · rw [e]
    exact fun w h => List.mem_cons_of_mem _ (List.mem_append_left _ (List.mem_append_left _ (List.mem_append_left _ (List.mem_append_left _ (List.mem_append_right _ h)))))
  rcases List.mem_cons.mp hl with e | hl
  · rw [e]
    exact fun w h => List.mem_cons_of_mem _ (List.mem_append_left _ (List.mem_append_left _ (List.mem_append_left _ (List.mem_append_right _ h))))
  rcases List.mem_cons.mp hl with e | hl
  · rw [e]
    exact fun w h => List.mem_cons_of_mem _ (List.mem_append_left _ (List.mem_append_left _ (List.mem_append_right _ h)))
  rcases List.mem_cons.mp hl with e | hl
  · rw [e]
    exact fun w h => List.mem_cons_of_mem _ (List.mem_append_left _ (List.mem_append_right _ h))
  rcases List.mem_cons.mp hl with e | hl
  · rw [e]
    exact fun w h => List.mem_cons_of_mem _ (List.mem_append_right _ h)
  cases hl
theorem zB_X11_check_X90 : ∀ w ∈ wsX90, w ∈ wsX11_check := fun _ h => List.mem_cons_of_mem _ (List.mem_append_left _ (List.mem_append_left _ (List.mem_append_left _ (List.mem_append_left _ (List.mem_append_left _ (List.mem_append_right _ h))))))
theorem zB_X11_check_X40 : ∀ w ∈ wsX40, w ∈ wsX11_check := fun _ h => List.mem_cons_of_mem _ (List.mem_append_left _ (List.mem_append_left _ (List.mem_append_left _ (List.mem_append_left _ (List.mem_append_right _ h)))))
theorem zB_X11_check_X00 : ∀ w ∈ wsX00, w ∈ wsX11_check := fun _ h => List.mem_cons_of_mem _ (List.mem_append_left _ (List.mem_append_left _ (List.mem_append_left _ (List.mem_append_right _ h))))
theorem zB_X11_check_X20 : ∀ w ∈ wsX20, w ∈ wsX11_check := fun _ h => List.mem_cons_of_mem _ (List.mem_append_left _ (List.mem_append_left _ (List.mem_append_right _ h)))
theorem zB_X11_check_X60 : ∀ w ∈ wsX60, w ∈ wsX11_check := fun _ h => List.mem_cons_of_mem _ (List.mem_append_left _ (List.mem_append_right _ h))
theorem zB_X11_check_X70 : ∀ w ∈ wsX70, w ∈ wsX11_check := fun _ h => List.mem_cons_of_mem _ (List.mem_append_right _ h)
set_option maxRecDepth 100000 in
theorem ggX11_check_X0_holds : GoodIn wsX11_check wsX0_holds := goodIn_hd (goodIn_c zc_wsX11_check_in [(0, 8)] rfl (by decide +kernel)) (goodIn_app (goodIn_app (goodIn_app (goodIn_app (goodIn_app (goodIn_app (goodIn_app (goodIn_c zc_wsX11_check_in [(0, 9), (0, 10), (0, 11), (0, 12), (0, 13), (0, 14), (0, 15), (0, 16), (0, 17), (0, 7), (0, 18), (0, 19), (0, 20), (0, 21), (0, 22), (0, 23), (1, 0), (1, 1), (1, 2), (1, 3), (1, 4), (1, 5), (1, 6), (1, 7)] rfl (by decide +kernel)) (goodIn_app (goodIn_c zc_wsX11_check_in [(1, 8), (1, 9), (1, 10), (1, 11), (1, 12), (1, 13), (1, 14), (1, 15), (1, 16), (1, 17), (1, 18), (1, 19), (1, 20), (1, 21), (1, 22), (1, 23), (2, 0), (2, 1), (2, 2), (2, 3), (2, 4), (2, 5), (2, 6), (2, 7)] rfl (by decide +kernel)) (goodIn_app (goodIn_c zc_wsX11_check_in [(2, 8), (2, 9), (2, 10), (2, 11), (2, 12), (2, 13), (2, 14), (2, 15), (2, 16), (2, 17), (2, 18), (2, 19), (2, 20), (2, 21), (2, 22), (2, 23), (3, 0), (3, 1), (3, 2), (3, 3), (3, 4), (3, 5), (3, 6), (3, 7)] rfl (by decide +kernel)) (goodIn_app (goodIn_c zc_wsX11_check_in [(3, 8), (3, 9), (3, 10), (3, 11), (3, 12), (3, 13), (3, 14), (3, 15), (3, 16), (3, 17), (3, 18), (3, 19), (3, 20), (3, 21), (3, 22), (3, 23), (4, 0), (4, 1), (4, 2), (4, 3), (4, 4), (4, 5), (4, 6), (4, 7)] rfl (by decide +kernel)) (goodIn_app (goodIn_c zc_wsX11_check_in [(4, 8), (4, 9), (4, 10), (4, 11), (4, 12), (4, 13), (4, 14), (4, 15), (4, 16), (4, 17), (4, 18), (4, 19), (4, 20), (4, 21), (4, 22), (4, 23), (5, 0), (5, 1), (5, 2), (5, 3), (5, 4), (5, 5), (5, 6), (5, 7)] rfl (by decide +kernel)) (goodIn_app (goodIn_c zc_wsX11_check_in [(5, 8), (5, 9), (5, 10), (5, 11), (5, 12), (5, 13), (5, 14), (5, 15), (5, 16), (5, 17), (5, 18), (5, 19), (5, 20), (5, 21), (5, 22), (5, 23), (6, 0), (6, 1), (6, 2), (6, 3), (6, 4), (6, 5), (6, 6), (6, 7)] rfl (by decide +kernel)) (goodIn_c zc_wsX11_check_in [(6, 8), (6, 9), (6, 10), (6, 11), (6, 12), (6, 13), (6, 14), (6, 15), (6, 16), (6, 17), (6, 18), (6, 19)] rfl (by decide +kernel)))))))) (goodIn_sub zB_X11_check_X90 zgw_X90)) (goodIn_sub zB_X11_check_X40 zgw_X40)) (goodIn_sub zB_X11_check_X00 zgw_X00)) (goodIn_sub zB_X11_check_X20 zgw_X20)) (goodIn_sub zB_X11_check_X60 zgw_X60)) (goodIn_sub zB_X11_check_X70 zgw_X70))
set_option maxRecDepth 100000 in
theorem gX11_check_X0_holds : GoodIn wsX11_check (wsV RX11 350 RX0 yX0_holds wsX0_holds) := goodIn_app (goodIn_r _ [5, 6, 7, 8] rfl (by decide +kernel)) ggX11_check_X0_holds
theorem zB_X11_check_X110 : ∀ w ∈ wsX110, w ∈ wsX11_check := fun _ h => List.mem_cons_of_mem _ (List.mem_append_left _ (List.mem_append_left _ (List.mem_append_left _ (List.mem_append_left _ (List.mem_append_left _ (List.mem_append_left _ (List.mem_append_right _ h)))))))
set_option maxRecDepth 100000 in
theorem ggX11_check_X11_refuse : GoodIn wsX11_check wsX11_refuse := goodIn_hd (goodIn_c zc_wsX11_check_in [(6, 23)] rfl (by decide +kernel)) (goodIn_app (goodIn_c zc_wsX11_check_in [(7, 0)] rfl (by decide +kernel)) (goodIn_sub zB_X11_check_X110 zgw_X110))
set_option maxRecDepth 100000 in
theorem gX11_check_X11_refuse : GoodIn wsX11_check (wsV RX11 92 RX11 yX11_refuse wsX11_refuse) := goodIn_app (goodIn_r _ [165, 166, 167, 86] rfl (by decide +kernel)) ggX11_check_X11_refuse
noncomputable def zc_wsX11_trials : List (List Cond) := [wsX11_trials_r1, wsX11_trials_r2, wsX11_trials_r3, wsX11_trials_r4, wsX11_trials_r5, wsX11_trials_r6, wsX11_trials_r7, wsX110, wsX80, wsX90, wsX40, wsX20, wsX70, wsX60]
set_option maxRecDepth 20000 in
theorem zc_wsX11_trials_in : ∀ l ∈ zc_wsX11_trials, ∀ w ∈ l, w ∈ wsX11_trials := by
  intro l hl
  unfold zc_wsX11_trials at hl
  rcases List.mem_cons.mp hl with e | hl
  · rw [e]
    exact fun w h => List.mem_cons_of_mem _ (List.mem_append_left _ (List.mem_append_left _ (List.mem_append_left _ (List.mem_append_left _ (List.mem_append_left _ (List.mem_append_left _ (List.mem_append_left _ (List.mem_append_left _ h))))))))
  rcases List.mem_cons.mp hl with e | hl
  · rw [e]
    exact fun w h => List.mem_cons_of_mem _ (List.mem_append_left _ (List.mem_append_left _ (List.mem_append_left _ (List.mem_append_left _ (List.mem_append_left _ (List.mem_append_left _ (List.mem_append_left _ (List.mem_append_right _ (List.mem_append_left _ h)))))))))
  rcases List.mem_cons.mp hl with e | hl
  · rw [e]
    exact fun w h => List.mem_cons_of_mem _ (List.mem_append_left _ (List.mem_append_left _ (List.mem_append_left _ (List.mem_append_left _ (List.mem_append_left _ (List.mem_append_left _ (List.mem_append_left _ (List.mem_append_right _ (List.mem_append_right _ (List.mem_append_left _ h))))))))))
  rcases List.mem_cons.mp hl with e | hl
  · rw [e]
    exact fun w h => List.mem_cons_of_mem _ (List.mem_append_left _ (List.mem_append_left _ (List.mem_append_left _ (List.mem_append_left _ (List.mem_append_left _ (List.mem_append_left _ (List.mem_append_left _ (List.mem_append_right _ (List.mem_append_right _ (List.mem_append_right _ (List.mem_append_left _ h)))))))))))
  rcases List.mem_cons.mp hl with e | hl
  · rw [e]
    exact fun w h => List.mem_cons_of_mem _ (List.mem_append_left _ (List.mem_append_left _ (List.mem_append_left _ (List.mem_append_left _ (List.mem_append_left _ (List.mem_append_left _ (List.mem_append_left _ (List.mem_append_right _ (List.mem_append_right _ (List.mem_append_right _ (List.mem_append_right _ (List.mem_append_left _ h))))))))))))
  rcases List.mem_cons.mp hl with e | hl
  · rw [e]
    exact fun w h => List.mem_cons_of_mem _ (List.mem_append_left _ (List.mem_append_left _ (List.mem_append_left _ (List.mem_append_left _ (List.mem_append_left _ (List.mem_append_left _ (List.mem_append_left _ (List.mem_append_right _ (List.mem_append_right _ (List.mem_append_right _ (List.mem_append_right _ (List.mem_append_right _ (List.mem_append_left _ h)))))))))))))
  rcases List.mem_cons.mp hl with e | hl
  · rw [e]
    exact fun w h => List.mem_cons_of_mem _ (List.mem_append_left _ (List.mem_append_left _ (List.mem_append_left _ (List.mem_append_left _ (List.mem_append_left _ (List.mem_append_left _ (List.mem_append_left _ (List.mem_append_right _ (List.mem_append_right _ (List.mem_append_right _ (List.mem_append_right _ (List.mem_append_right _ (List.mem_append_right _ h)))))))))))))
  rcases List.mem_cons.mp hl with e | hl
  · rw [e]
    exact fun w h => List.mem_cons_of_mem _ (List.mem_append_left _ (List.mem_append_left _ (List.mem_append_left _ (List.mem_append_left _ (List.mem_append_left _ (List.mem_append_left _ (List.mem_append_right _ h)))))))
  rcases List.mem_cons.mp hl with e | hl
  · rw [e]
    exact fun w h => List.mem_cons_of_mem _ (List.mem_append_left _ (List.mem_append_left _ (List.mem_append_left _ (List.mem_append_left _ (List.mem_append_left _ (List.mem_append_right _ h))))))
  rcases List.mem_cons.mp hl with e | hl
  · rw [e]
    exact fun w h => List.mem_cons_of_mem _ (List.mem_append_left _ (List.mem_append_left _ (List.mem_append_left _ (List.mem_append_left _ (List.mem_append_right _ h)))))
  rcases List.mem_cons.mp hl with e | hl
  · rw [e]
    exact fun w h => List.mem_cons_of_mem _ (List.mem_append_left _ (List.mem_append_left _ (List.mem_append_left _ (List.mem_append_right _ h))))
  rcases List.mem_cons.mp hl with e | hl
  · rw [e]
    exact fun w h => List.mem_cons_of_mem _ (List.mem_append_left _ (List.mem_append_left _ (List.mem_append_right _ h)))
  rcases List.mem_cons.mp hl with e | hl
  · rw [e]
    exact fun w h => List.mem_cons_of_mem _ (List.mem_append_left _ (List.mem_append_right _ h))
  rcases List.mem_cons.mp hl with e | hl
  · rw [e]
    exact fun w h => List.mem_cons_of_mem _ (List.mem_append_right _ h)
  cases hl
theorem zB_X11_trials_X90 : ∀ w ∈ wsX90, w ∈ wsX11_trials := fun _ h => List.mem_cons_of_mem _ (List.mem_append_left _ (List.mem_append_left _ (List.mem_append_left _ (List.mem_append_left _ (List.mem_append_right _ h)))))
theorem zB_X11_trials_X40 : ∀ w ∈ wsX40, w ∈ wsX11_trials := fun _ h => List.mem_cons_of_mem _ (List.mem_append_left _ (List.mem_append_left _ (List.mem_append_left _ (List.mem_append_right _ h))))
set_option maxRecDepth 100000 in
theorem ggX11_trials_X9_hasNumber : GoodIn wsX11_trials wsX9_hasNumber := goodIn_hd (goodIn_c zc_wsX11_trials_in [(0, 17)] rfl (by decide +kernel)) (goodIn_app (goodIn_app (goodIn_c zc_wsX11_trials_in [(0, 18), (0, 19)] rfl (by decide +kernel)) (goodIn_sub zB_X11_trials_X90 zgw_X90)) (goodIn_sub zB_X11_trials_X40 zgw_X40))
set_option maxRecDepth 100000 in
theorem gX11_trials_X9_hasNumber : GoodIn wsX11_trials (wsV RX11 157 RX9 yX9_hasNumber wsX9_hasNumber) := goodIn_app (goodIn_r _ [14, 15, 16, 17] rfl (by decide +kernel)) ggX11_trials_X9_hasNumber
theorem zB_X11_trials_X110 : ∀ w ∈ wsX110, w ∈ wsX11_trials := fun _ h => List.mem_cons_of_mem _ (List.mem_append_left _ (List.mem_append_left _ (List.mem_append_left _ (List.mem_append_left _ (List.mem_append_left _ (List.mem_append_left _ (List.mem_append_right _ h)))))))
theorem zB_X11_trials_X20 : ∀ w ∈ wsX20, w ∈ wsX11_trials := fun _ h => List.mem_cons_of_mem _ (List.mem_append_left _ (List.mem_append_left _ (List.mem_append_right _ h)))
theorem zB_X11_trials_X70 : ∀ w ∈ wsX70, w ∈ wsX11_trials := fun _ h => List.mem_cons_of_mem _ (List.mem_append_left _ (List.mem_append_right _ h))
theorem zB_X11_trials_X60 : ∀ w ∈ wsX60, w ∈ wsX11_trials := fun _ h => List.mem_cons_of_mem _ (List.mem_append_right _ h)
set_option maxRecDepth 100000 in
theorem ggX11_trials_X11_handPasses : GoodIn wsX11_trials wsX11_handPasses := goodIn_hd (goodIn_c zc_wsX11_trials_in [(1, 0)] rfl (by decide +kernel)) (goodIn_app (goodIn_app (goodIn_app (goodIn_app (goodIn_app (goodIn_app (goodIn_app (goodIn_c zc_wsX11_trials_in [(0, 0), (1, 1), (1, 2), (0, 2), (1, 3), (1, 4), (1, 5), (0, 16), (1, 6), (0, 18), (0, 19), (1, 7), (1, 8), (1, 9), (1, 10), (1, 11), (1, 12), (1, 13), (1, 14), (1, 15), (1, 16), (1, 17), (1, 18), (1, 19)] rfl (by decide +kernel)) (goodIn_app (goodIn_c zc_wsX11_trials_in [(1, 20), (1, 21), (1, 22), (1, 23), (2, 0), (2, 1), (0, 11), (0, 8), (0, 12), (2, 2), (2, 3), (2, 4), (2, 5), (2, 6), (2, 7), (2, 8), (2, 9), (2, 10), (2, 11), (2, 12), (2, 13), (2, 14), (2, 15), (2, 16)] rfl (by decide +kernel)) (goodIn_app (goodIn_c zc_wsX11_trials_in [(2, 17), (2, 18), (2, 19), (2, 20), (2, 21), (2, 22), (2, 23), (3, 0), (3, 1), (3, 2), (3, 3), (3, 4), (3, 5), (3, 6), (3, 7), (0, 23), (3, 8), (3, 9), (3, 10), (3, 11), (3, 12), (3, 13), (3, 14), (0, 7)] rfl (by decide +kernel)) (goodIn_c zc_wsX11_trials_in [(0, 9), (3, 15), (3, 16), (3, 17), (3, 18), (3, 19), (3, 20), (3, 21), (3, 22), (3, 23), (4, 0), (4, 1), (4, 2), (4, 3), (4, 4), (4, 5), (4, 6), (4, 7), (4, 8), (4, 9), (4, 10), (0, 14), (0, 15), (0, 17)] rfl (by decide +kernel))))) (goodIn_sub zB_X11_trials_X110 zgw_X110)) (goodIn_sub zB_X11_trials_X90 zgw_X90)) (goodIn_sub zB_X11_trials_X40 zgw_X40)) (goodIn_sub zB_X11_trials_X20 zgw_X20)) (goodIn_sub zB_X11_trials_X70 zgw_X70)) (goodIn_sub zB_X11_trials_X60 zgw_X60))
set_option maxRecDepth 100000 in
theorem gX11_trials_X11_handPasses : GoodIn wsX11_trials (wsV RX11 254 RX11 yX11_handPasses wsX11_handPasses) := goodIn_app (goodIn_r _ [21, 22, 23, 24] rfl (by decide +kernel)) ggX11_trials_X11_handPasses
set_option maxRecDepth 100000 in
theorem ggX11_trials_X11_refuse : GoodIn wsX11_trials wsX11_refuse := goodIn_hd (goodIn_c zc_wsX11_trials_in [(4, 14)] rfl (by decide +kernel)) (goodIn_app (goodIn_c zc_wsX11_trials_in [(4, 15)] rfl (by decide +kernel)) (goodIn_sub zB_X11_trials_X110 zgw_X110))
set_option maxRecDepth 100000 in
theorem gX11_trials_X11_refuse : GoodIn wsX11_trials (wsV RX11 92 RX11 yX11_refuse wsX11_refuse) := goodIn_app (goodIn_r _ [108, 109, 110, 24] rfl (by decide +kernel)) ggX11_trials_X11_refuse
theorem zB_X11_trials_X80 : ∀ w ∈ wsX80, w ∈ wsX11_trials := fun _ h => List.mem_cons_of_mem _ (List.mem_append_left _ (List.mem_append_left _ (List.mem_append_left _ (List.mem_append_left _ (List.mem_append_left _ (List.mem_append_right _ h))))))
theorem zgw_X80 : wsX80.all goodWord = true := by decide +kernel
set_option maxRecDepth 100000 in
theorem ggX11_trials_X8_sample : GoodIn wsX11_trials wsX8_sample := goodIn_hd (goodIn_c zc_wsX11_trials_in [(4, 20)] rfl (by decide +kernel)) (goodIn_app (goodIn_app (goodIn_app (goodIn_app (goodIn_app (goodIn_c zc_wsX11_trials_in [(4, 21), (4, 22), (4, 23), (5, 0), (5, 1), (5, 2), (5, 3), (5, 4), (5, 5), (2, 5), (2, 6), (0, 16), (2, 7), (0, 18), (0, 19), (1, 7), (2, 8), (5, 6), (2, 10), (2, 11), (2, 12), (2, 13), (2, 14), (5, 7)] rfl (by decide +kernel)) (goodIn_app (goodIn_c zc_wsX11_trials_in [(3, 3), (3, 4), (2, 22), (3, 5), (3, 0), (3, 6), (5, 8), (0, 23), (5, 9), (5, 10), (5, 11), (5, 12), (5, 13), (5, 14), (5, 15), (5, 16), (4, 19), (5, 17), (5, 18), (2, 20), (2, 21), (2, 23), (3, 1), (5, 19)] rfl (by decide +kernel)) (goodIn_c zc_wsX11_trials_in [(5, 20), (5, 21), (5, 22), (5, 23), (0, 8), (6, 0), (0, 10), (0, 11), (0, 12), (6, 1)] rfl (by decide +kernel)))) (goodIn_sub zB_X11_trials_X90 zgw_X90)) (goodIn_sub zB_X11_trials_X40 zgw_X40)) (goodIn_sub zB_X11_trials_X80 zgw_X80)) (goodIn_sub zB_X11_trials_X20 zgw_X20))
set_option maxRecDepth 100000 in
theorem gX11_trials_X8_sample : GoodIn wsX11_trials (wsV RX11 357 RX8 yX8_sample wsX8_sample) := goodIn_app (goodIn_r _ [113, 114, 115, 116] rfl (by decide +kernel)) ggX11_trials_X8_sample
noncomputable def zc_wsX11_trial : List (List Cond) := [wsX11_trial_r1, wsX11_trial_r2, wsX11_trial_r3, wsX11_trial_r4, wsX11_trial_r5, wsX11_trial_r6, wsX110, wsX80, wsX90, wsX40, wsX20, wsX70, wsX60]
set_option maxRecDepth 20000 in
theorem zc_wsX11_trial_in : ∀ l ∈ zc_wsX11_trial, ∀ w ∈ l, w ∈ wsX11_trial := by
  intro l hl
  unfold zc_wsX11_trial at hl
  rcases List.mem_cons.mp hl with e | hl
  · rw [e]
    exact fun w h => List.mem_cons_of_mem _ (List.mem_append_left _ (List.mem_append_left _ (List.mem_append_left _ (List.mem_append_left _ (List.mem_append_left _ (List.mem_append_left _ (List.mem_append_left _ (List.mem_append_left _ h))))))))
  rcases List.mem_cons.mp hl with e | hl
  · rw [e]
    exact fun w h => List.mem_cons_of_mem _ (List.mem_append_left _ (List.mem_append_left _ (List.mem_append_left _ (List.mem_append_left _ (List.mem_append_left _ (List.mem_append_left _ (List.mem_append_left _ (List.mem_append_right _ (List.mem_append_left _ h)))))))))
  rcases List.mem_cons.mp hl with e | hl
  · rw [e]
    exact fun w h => List.mem_cons_of_mem _ (List.mem_append_left _ (List.mem_append_left _ (List.mem_append_left _ (List.mem_append_left _ (List.mem_append_left _ (List.mem_append_left _ (List.mem_append_left _ (List.mem_append_right _ (List.mem_append_right _ (List.mem_append_left _ h))))))))))
  rcases List.mem_cons.mp hl with e | hl
  · rw [e]
    exact fun w h => List.mem_cons_of_mem _ (List.mem_append_left _ (List.mem_append_left _ (List.mem_append_left _ (List.mem_append_left _ (List.mem_append_left _ (List.mem_append_left _ (List.mem_append_left _ (List.mem_append_right _ (List.mem_append_right _ (List.mem_append_right _ (List.mem_append_left _ h)))))))))))
  rcases List.mem_cons.mp hl with e | hl
  · rw [e]
    exact fun w h => List.mem_cons_of_mem _ (List.mem_append_left _ (List.mem_append_left _ (List.mem_append_left _ (List.mem_append_left _ (List.mem_append_left _ (List.mem_append_left _ (List.mem_append_left _ (List.mem_append_right _ (List.mem_append_right _ (List.mem_append_right _ (List.mem_append_right _ (List.mem_append_left _ h))))))))))))
  rcases List.mem_cons.mp hl with e | hl
  · rw [e]
    exact fun w h => List.mem_cons_of_mem _ (List.mem_append_left _ (List.mem_append_left _ (List.mem_append_left _ (List.mem_append_left _ (List.mem_append_left _ (List.mem_append_left _ (List.mem_append_left _ (List.mem_append_right _ (List.mem_append_right _ (List.mem_append_right _ (List.mem_append_right _ (List.mem_append_right _ h))))))))))))
  rcases List.mem_cons.mp hl with e | hl
  · rw [e]
    exact fun w h => List.mem_cons_of_mem _ (List.mem_append_left _ (List.mem_append_left _ (List.mem_append_left _ (List.mem_append_left _ (List.mem_append_left _ (List.mem_append_left _ (List.mem_append_right _ h)))))))
  rcases List.mem_cons.mp hl with e | hl
  · rw [e]
    exact fun w h => List.mem_cons_of_mem _ (List.mem_append_left _ (List.mem_append_left _ (List.mem_append_left _ (List.mem_append_left _ (List.mem_append_left _ (List.mem_append_right _ h))))))
  rcases List.mem_cons.mp hl with e | hl
  · rw [e]
    exact fun w h => List.mem_cons_of_mem _ (List.mem_append_left _ (List.mem_append_left _ (List.mem_append_left _ (List.mem_append_left _ (List.mem_append_right _ h)))))
  rcases List.mem_cons.mp hl with e | hl
  · rw [e]
    exact fun w h => List.mem_cons_of_mem _ (List.mem_append_left _ (List.mem_append_left _ (List.mem_append_left _ (List.mem_append_right _ h))))
  rcases List.mem_cons.mp hl with e | hl
  · rw [e]
    exact fun w h => List.mem_cons_of_mem _ (List.mem_append_left _ (List.mem_append_left _ (List.mem_append_right _ h)))
  rcases List.mem_cons.mp hl with e | hl
  · rw [e]
    exact fun w h => List.mem_cons_of_mem _ (List.mem_append_left _ (List.mem_append_right _ h))
  rcases List.mem_cons.mp hl with e | hl
  · rw [e]
    exact fun w h => List.mem_cons_of_mem _ (List.mem_append_right _ h)
  cases hl
theorem zB_X11_trial_X90 : ∀ w ∈ wsX90, w ∈ wsX11_trial := fun _ h => List.mem_cons_of_mem _ (List.mem_append_left _ (List.mem_append_left _ (List.mem_append_left _ (List.mem_append_left _ (List.mem_append_right _ h)))))
theorem zB_X11_trial_X40 : ∀ w ∈ wsX40, w ∈ wsX11_trial := fun _ h => List.mem_cons_of_mem _ (List.mem_append_left _ (List.mem_append_left _ (List.mem_append_left _ (List.mem_append_right _ h))))
set_option maxRecDepth 100000 in
theorem ggX11_trial_X9_hasNumber : GoodIn wsX11_trial wsX9_hasNumber := goodIn_hd (goodIn_c zc_wsX11_trial_in [(0, 11)] rfl (by decide +kernel)) (goodIn_app (goodIn_app (goodIn_c zc_wsX11_trial_in [(0, 12), (0, 13)] rfl (by decide +kernel)) (goodIn_sub zB_X11_trial_X90 zgw_X90)) (goodIn_sub zB_X11_trial_X40 zgw_X40))
set_option maxRecDepth 100000 in
theorem gX11_trial_X9_hasNumber : GoodIn wsX11_trial (wsV RX11 157 RX9 yX9_hasNumber wsX9_hasNumber) := goodIn_app (goodIn_r _ [8, 9, 10, 11] rfl (by decide +kernel)) ggX11_trial_X9_hasNumber
theorem zB_X11_trial_X110 : ∀ w ∈ wsX110, w ∈ wsX11_trial := fun _ h => List.mem_cons_of_mem _ (List.mem_append_left _ (List.mem_append_left _ (List.mem_append_left _ (List.mem_append_left _ (List.mem_append_left _ (List.mem_append_left _ (List.mem_append_right _ h)))))))
theorem zB_X11_trial_X20 : ∀ w ∈ wsX20, w ∈ wsX11_trial := fun _ h => List.mem_cons_of_mem _ (List.mem_append_left _ (List.mem_append_left _ (List.mem_append_right _ h)))
theorem zB_X11_trial_X70 : ∀ w ∈ wsX70, w ∈ wsX11_trial := fun _ h => List.mem_cons_of_mem _ (List.mem_append_left _ (List.mem_append_right _ h))
theorem zB_X11_trial_X60 : ∀ w ∈ wsX60, w ∈ wsX11_trial := fun _ h => List.mem_cons_of_mem _ (List.mem_append_right _ h)
set_option maxRecDepth 100000 in
theorem ggX11_trial_X11_handPasses : GoodIn wsX11_trial wsX11_handPasses := goodIn_hd (goodIn_c zc_wsX11_trial_in [(0, 18)] rfl (by decide +kernel)) (goodIn_app (goodIn_app (goodIn_app (goodIn_app (goodIn_app (goodIn_app (goodIn_app (goodIn_c zc_wsX11_trial_in [(0, 0), (0, 19), (0, 20), (0, 3), (0, 21), (0, 22), (0, 23), (0, 10), (1, 0), (0, 12), (0, 13), (1, 1), (1, 2), (1, 3), (1, 4), (1, 5), (1, 6), (1, 7), (1, 8), (1, 9), (1, 10), (1, 11), (1, 12), (1, 13)] rfl (by decide +kernel)) (goodIn_app (goodIn_c zc_wsX11_trial_in [(1, 14), (1, 15), (1, 16), (1, 17), (1, 18), (1, 19), (1, 20), (1, 21), (1, 22), (1, 23), (2, 0), (2, 1), (2, 2), (2, 3), (2, 4), (2, 5), (2, 6), (2, 7), (2, 8), (2, 9), (2, 10), (2, 11), (2, 12), (2, 13)] rfl (by decide +kernel)) (goodIn_app (goodIn_c zc_wsX11_trial_in [(2, 14), (2, 15), (2, 16), (2, 17), (2, 18), (2, 19), (2, 20), (2, 21), (2, 22), (2, 23), (3, 0), (3, 1), (3, 2), (3, 3), (3, 4), (0, 17), (3, 5), (3, 6), (3, 7), (3, 8), (3, 9), (3, 10), (3, 11), (3, 12)] rfl (by decide +kernel)) (goodIn_c zc_wsX11_trial_in [(3, 13), (3, 14), (3, 15), (3, 16), (3, 17), (3, 18), (3, 19), (3, 20), (3, 21), (3, 22), (3, 23), (4, 0), (4, 1), (4, 2), (4, 3), (4, 4), (4, 5), (4, 6), (4, 7), (4, 8), (4, 9), (0, 8), (0, 9), (0, 11)] rfl (by decide +kernel))))) (goodIn_sub zB_X11_trial_X110 zgw_X110)) (goodIn_sub zB_X11_trial_X90 zgw_X90)) (goodIn_sub zB_X11_trial_X40 zgw_X40)) (goodIn_sub zB_X11_trial_X20 zgw_X20)) (goodIn_sub zB_X11_trial_X70 zgw_X70)) (goodIn_sub zB_X11_trial_X60 zgw_X60))
set_option maxRecDepth 100000 in
theorem gX11_trial_X11_handPasses : GoodIn wsX11_trial (wsV RX11 254 RX11 yX11_handPasses wsX11_handPasses) := goodIn_app (goodIn_r _ [15, 16, 17, 18] rfl (by decide +kernel)) ggX11_trial_X11_handPasses
theorem zB_X11_trial_X80 : ∀ w ∈ wsX80, w ∈ wsX11_trial := fun _ h => List.mem_cons_of_mem _ (List.mem_append_left _ (List.mem_append_left _ (List.mem_append_left _ (List.mem_append_left _ (List.mem_append_left _ (List.mem_append_right _ h))))))
set_option maxRecDepth 100000 in
theorem ggX11_trial_X8_sample : GoodIn wsX11_trial wsX8_sample := goodIn_hd (goodIn_c zc_wsX11_trial_in [(4, 14)] rfl (by decide +kernel)) (goodIn_app (goodIn_app (goodIn_app (goodIn_app (goodIn_app (goodIn_c zc_wsX11_trial_in [(4, 15), (4, 16), (4, 17), (4, 18), (4, 19), (4, 20), (4, 21), (4, 22), (4, 23), (2, 2), (2, 3), (0, 10), (2, 4), (0, 12), (0, 13), (1, 1), (2, 5), (5, 0), (2, 7), (2, 8), (2, 9), (2, 10), (2, 11), (5, 1)] rfl (by decide +kernel)) (goodIn_app (goodIn_c zc_wsX11_trial_in [(3, 0), (3, 1), (2, 19), (3, 2), (2, 21), (3, 3), (5, 2), (0, 17), (5, 3), (5, 4), (5, 5), (5, 6), (5, 7), (5, 8), (5, 9), (5, 10), (4, 13), (5, 11), (5, 12), (2, 17), (2, 18), (2, 20), (2, 22), (5, 13)] rfl (by decide +kernel)) (goodIn_c zc_wsX11_trial_in [(5, 14), (5, 15), (5, 16), (5, 17), (1, 21), (5, 18), (5, 19), (1, 20), (1, 22), (5, 20)] rfl (by decide +kernel)))) (goodIn_sub zB_X11_trial_X90 zgw_X90)) (goodIn_sub zB_X11_trial_X40 zgw_X40)) (goodIn_sub zB_X11_trial_X80 zgw_X80)) (goodIn_sub zB_X11_trial_X20 zgw_X20))
set_option maxRecDepth 100000 in
theorem gX11_trial_X8_sample : GoodIn wsX11_trial (wsV RX11 357 RX8 yX8_sample wsX8_sample) := goodIn_app (goodIn_r _ [107, 108, 109, 110] rfl (by decide +kernel)) ggX11_trial_X8_sample
theorem zB_X11_seed_X110 : ∀ w ∈ wsX110, w ∈ wsX11_seed := fun _ h => List.mem_cons_of_mem _ (List.mem_append_right _ h)
set_option maxRecDepth 100000 in
theorem ggX11_seed_X11_refuse : GoodIn wsX11_seed wsX11_refuse := goodIn_hd (goodIn_r _ [6] rfl (by decide +kernel)) (goodIn_app (goodIn_r _ [7] rfl (by decide +kernel)) (goodIn_sub zB_X11_seed_X110 zgw_X110))
set_option maxRecDepth 100000 in
theorem gX11_seed_X11_refuse : GoodIn wsX11_seed (wsV RX11 92 RX11 yX11_refuse wsX11_refuse) := goodIn_app (goodIn_r _ [2, 3, 4, 5] rfl (by decide +kernel)) ggX11_seed_X11_refuse
noncomputable def zc_wsX11_handPasses : List (List Cond) := [wsX11_handPasses_r1, wsX11_handPasses_r2, wsX11_handPasses_r3, wsX11_handPasses_r4, wsX110, wsX90, wsX40, wsX20, wsX70, wsX60]
set_option maxRecDepth 20000 in
theorem zc_wsX11_handPasses_in : ∀ l ∈ zc_wsX11_handPasses, ∀ w ∈ l, w ∈ wsX11_handPasses := by
  intro l hl
  unfold zc_wsX11_handPasses at hl
  rcases List.mem_cons.mp hl with e | hl
  · rw [e]
    exact fun w h => List.mem_cons_of_mem _ (List.mem_append_left _ (List.mem_append_left _ (List.mem_append_left _ (List.mem_append_left _ (List.mem_append_left _ (List.mem_append_left _ (List.mem_append_left _ h)))))))
  rcases List.mem_cons.mp hl with e | hl
  · rw [e]
    exact fun w h => List.mem_cons_of_mem _ (List.mem_append_left _ (List.mem_append_left _ (List.mem_append_left _ (List.mem_append_left _ (List.mem_append_left _ (List.mem_append_left _ (List.mem_append_right _ (List.mem_append_left _ h))))))))
  rcases List.mem_cons.mp hl with e | hl
  · rw [e]
    exact fun w h => List.mem_cons_of_mem _ (List.mem_append_left _ (List.mem_append_left _ (List.mem_append_left _ (List.mem_append_left _ (List.mem_append_left _ (List.mem_append_left _ (List.mem_append_right _ (List.mem_append_right _ (List.mem_append_left _ h)))))))))
  rcases List.mem_cons.mp hl with e | hl
  · rw [e]
    exact fun w h => List.mem_cons_of_mem _ (List.mem_append_left _ (List.mem_append_left _ (List.mem_append_left _ (List.mem_append_left _ (List.mem_append_left _ (List.mem_append_left _ (List.mem_append_right _ (List.mem_append_right _ (List.mem_append_right _ h)))))))))
  rcases List.mem_cons.mp hl with e | hl
  · rw [e]
    exact fun w h => List.mem_cons_of_mem _ (List.mem_append_left _ (List.mem_append_left _ (List.mem_append_left _ (List.mem_append_left _ (List.mem_append_left _ (List.mem_append_right _ h))))))
  rcases List.mem_cons.mp hl with e | hl
  · rw [e]
    exact fun w h => List.mem_cons_of_mem _ (List.mem_append_left _ (List.mem_append_left _ (List.mem_append_left _ (List.mem_append_left _ (List.mem_append_right _ h)))))
  rcases List.mem_cons.mp hl with e | hl
  · rw [e]
    exact fun w h => List.mem_cons_of_mem _ (List.mem_append_left _ (List.mem_append_left _ (List.mem_append_left _ (List.mem_append_right _ h))))
  rcases List.mem_cons.mp hl with e | hl
  · rw [e]
    exact fun w h => List.mem_cons_of_mem _ (List.mem_append_left _ (List.mem_append_left _ (List.mem_append_right _ h)))
  rcases List.mem_cons.mp hl with e | hl
  · rw [e]
    exact fun w h => List.mem_cons_of_mem _ (List.mem_append_left _ (List.mem_append_right _ h))
  rcases List.mem_cons.mp hl with e | hl
  · rw [e]
    exact fun w h => List.mem_cons_of_mem _ (List.mem_append_right _ h)
  cases hl
theorem zB_X11_handPasses_X90 : ∀ w ∈ wsX90, w ∈ wsX11_handPasses := fun _ h => List.mem_cons_of_mem _ (List.mem_append_left _ (List.mem_append_left _ (List.mem_append_left _ (List.mem_append_left _ (List.mem_append_right _ h)))))
theorem zB_X11_handPasses_X40 : ∀ w ∈ wsX40, w ∈ wsX11_handPasses := fun _ h => List.mem_cons_of_mem _ (List.mem_append_left _ (List.mem_append_left _ (List.mem_append_left _ (List.mem_append_right _ h))))
theorem zB_X11_handPasses_X20 : ∀ w ∈ wsX20, w ∈ wsX11_handPasses := fun _ h => List.mem_cons_of_mem _ (List.mem_append_left _ (List.mem_append_left _ (List.mem_append_right _ h)))
set_option maxRecDepth 100000 in
theorem ggX11_handPasses_X9_hasChoice : GoodIn wsX11_handPasses wsX9_hasChoice := goodIn_hd (goodIn_c zc_wsX11_handPasses_in [(0, 8)] rfl (by decide +kernel)) (goodIn_app (goodIn_app (goodIn_app (goodIn_c zc_wsX11_handPasses_in [(0, 9), (0, 10), (0, 11), (0, 12)] rfl (by decide +kernel)) (goodIn_sub zB_X11_handPasses_X90 zgw_X90)) (goodIn_sub zB_X11_handPasses_X40 zgw_X40)) (goodIn_sub zB_X11_handPasses_X20 zgw_X20))
set_option maxRecDepth 100000 in
theorem gX11_handPasses_X9_hasChoice : GoodIn wsX11_handPasses (wsV RX11 220 RX9 yX9_hasChoice wsX9_hasChoice) := goodIn_app (goodIn_r _ [5, 6, 7, 8] rfl (by decide +kernel)) ggX11_handPasses_X9_hasChoice
theorem zB_X11_handPasses_X70 : ∀ w ∈ wsX70, w ∈ wsX11_handPasses := fun _ h => List.mem_cons_of_mem _ (List.mem_append_left _ (List.mem_append_right _ h))
theorem zB_X11_handPasses_X60 : ∀ w ∈ wsX60, w ∈ wsX11_handPasses := fun _ h => List.mem_cons_of_mem _ (List.mem_append_right _ h)
set_option maxRecDepth 100000 in
theorem ggX11_handPasses_X7_reckon : GoodIn wsX11_handPasses wsX7_reckon := goodIn_hd (goodIn_c zc_wsX11_handPasses_in [(0, 17)] rfl (by decide +kernel)) (goodIn_app (goodIn_app (goodIn_app (goodIn_app (goodIn_app (goodIn_app (goodIn_c zc_wsX11_handPasses_in [(0, 18), (0, 19), (0, 20), (0, 21), (0, 22), (0, 23), (1, 0), (1, 1), (1, 2), (0, 16), (1, 3), (1, 4), (1, 5), (1, 6), (1, 7), (1, 8), (1, 9), (1, 10), (1, 11), (1, 12), (1, 13), (0, 7), (1, 14), (0, 9)] rfl (by decide +kernel)) (goodIn_app (goodIn_c zc_wsX11_handPasses_in [(0, 10), (0, 11), (1, 15), (1, 16), (1, 17), (1, 18), (1, 19), (1, 20), (1, 21), (1, 22), (1, 23), (2, 0), (2, 1), (2, 2), (2, 3), (2, 4), (2, 5), (2, 6), (2, 7), (2, 8), (2, 9), (2, 10), (2, 11), (2, 12)] rfl (by decide +kernel)) (goodIn_app (goodIn_c zc_wsX11_handPasses_in [(2, 13), (2, 14), (2, 15), (2, 16), (2, 17), (2, 18), (2, 19), (2, 20), (2, 21), (2, 22), (2, 23), (3, 0), (3, 1), (3, 2), (3, 3), (3, 4), (3, 5), (3, 6), (3, 7), (3, 8), (3, 9), (3, 10), (3, 11), (3, 12)] rfl (by decide +kernel)) (goodIn_c zc_wsX11_handPasses_in [(3, 13), (3, 14), (3, 15), (3, 16), (3, 17), (3, 18), (3, 19), (3, 20), (3, 21), (3, 22), (3, 23)] rfl (by decide +kernel))))) (goodIn_sub zB_X11_handPasses_X70 zgw_X70)) (goodIn_sub zB_X11_handPasses_X90 zgw_X90)) (goodIn_sub zB_X11_handPasses_X40 zgw_X40)) (goodIn_sub zB_X11_handPasses_X20 zgw_X20)) (goodIn_sub zB_X11_handPasses_X60 zgw_X60))
set_option maxRecDepth 100000 in
theorem gX11_handPasses_X7_reckon : GoodIn wsX11_handPasses (wsV RX11 238 RX7 yX7_reckon wsX7_reckon) := goodIn_app (goodIn_r _ [14, 15, 16, 17] rfl (by decide +kernel)) ggX11_handPasses_X7_reckon
noncomputable def zc_wsX11_passesLonger : List (List Cond) := [wsX11_passesLonger_r1, wsX11_passesLonger_r2, wsX11_passesLonger_r3, wsX11_passesLonger_r4, wsX11_passesLonger_r5, wsX11_passesLonger_r6, wsX11_passesLonger_r7, wsX110, wsX90, wsX40, wsX60, wsX70, wsX20]
set_option maxRecDepth 20000 in
theorem zc_wsX11_passesLonger_in : ∀ l ∈ zc_wsX11_passesLonger, ∀ w ∈ l, w ∈ wsX11_passesLonger := by
  intro l hl
  unfold zc_wsX11_passesLonger at hl
  rcases List.mem_cons.mp hl with e | hl
  · rw [e]
    exact fun w h => List.mem_cons_of_mem _ (List.mem_append_left _ (List.mem_append_left _ (List.mem_append_left _ (List.mem_append_left _ (List.mem_append_left _ (List.mem_append_left _ (List.mem_append_left _ h)))))))
  rcases List.mem_cons.mp hl with e | hl
  · rw [e]
    exact fun w h => List.mem_cons_of_mem _ (List.mem_append_left _ (List.mem_append_left _ (List.mem_append_left _ (List.mem_append_left _ (List.mem_append_left _ (List.mem_append_left _ (List.mem_append_right _ (List.mem_append_left _ h))))))))
  rcases List.mem_cons.mp hl with e | hl
  · rw [e]
    exact fun w h => List.mem_cons_of_mem _ (List.mem_append_left _ (List.mem_append_left _ (List.mem_append_left _ (List.mem_append_left _ (List.mem_append_left _ (List.mem_append_left _ (List.mem_append_right _ (List.mem_append_right _ (List.mem_append_left _ h)))))))))
  rcases List.mem_cons.mp hl with e | hl
  · rw [e]
    exact fun w h => List.mem_cons_of_mem _ (List.mem_append_left _ (List.mem_append_left _ (List.mem_append_left _ (List.mem_append_left _ (List.mem_append_left _ (List.mem_append_left _ (List.mem_append_right _ (List.mem_append_right _ (List.mem_append_right _ (List.mem_append_left _ h))))))))))
  rcases List.mem_cons.mp hl with e | hl
  · rw [e]
    exact fun w h => List.mem_cons_of_mem _ (List.mem_append_left _ (List.mem_append_left _ (List.mem_append_left _ (List.mem_append_left _ (List.mem_append_left _ (List.mem_append_left _ (List.mem_append_right _ (List.mem_append_right _ (List.mem_append_right _ (List.mem_append_right _ (List.mem_append_left _ h)))))))))))
  rcases List.mem_cons.mp hl with e | hl
  · rw [e]
    exact fun w h => List.mem_cons_of_mem _ (List.mem_append_left _ (List.mem_append_left _ (List.mem_append_left _ (List.mem_append_left _ (List.mem_append_left _ (List.mem_append_left _ (List.mem_append_right _ (List.mem_append_right _ (List.mem_append_right _ (List.mem_append_right _ (List.mem_append_right _ (List.mem_append_left _ h))))))))))))
  rcases List.mem_cons.mp hl with e | hl
  · rw [e]
    exact fun w h => List.mem_cons_of_mem _ (List.mem_append_left _ (List.mem_append_left _ (List.mem_append_left _ (List.mem_append_left _ (List.mem_append_left _ (List.mem_append_left _ (List.mem_append_right _ (List.mem_append_right _ (List.mem_append_right _ (List.mem_append_right _ (List.mem_append_right _ (List.mem_append_right _ h))))))))))))
  rcases List.mem_cons.mp hl with e | hl
  · rw [e]
    exact fun w h => List.mem_cons_of_mem _ (List.mem_append_left _ (List.mem_append_left _ (List.mem_append_left _ (List.mem_append_left _ (List.mem_append_left _ (List.mem_append_right _ h))))))
  rcases List.mem_cons.mp hl with e | hl
  · rw [e]
    exact fun w h => List.mem_cons_of_mem _ (List.mem_append_left _ (List.mem_append_left _ (List.mem_append_left _ (List.mem_append_left _ (List.mem_append_right _ h)))))
  rcases List.mem_cons.mp hl with e | hl
  · rw [e]
    exact fun w h => List.mem_cons_of_mem _ (List.mem_append_left _ (List.mem_append_left _ (List.mem_append_left _ (List.mem_append_right _ h))))
  rcases List.mem_cons.mp hl with e | hl
  · rw [e]
    exact fun w h => List.mem_cons_of_mem _ (List.mem_append_left _ (List.mem_append_left _ (List.mem_append_right _ h)))
  rcases List.mem_cons.mp hl with e | hl
  · rw [e]
    exact fun w h => List.mem_cons_of_mem _ (List.mem_append_left _ (List.mem_append_right _ h))
  rcases List.mem_cons.mp hl with e | hl
  · rw [e]
    exact fun w h => List.mem_cons_of_mem _ (List.mem_append_right _ h)
  cases hl
theorem zB_X11_passesLonger_X40 : ∀ w ∈ wsX40, w ∈ wsX11_passesLonger := fun _ h => List.mem_cons_of_mem _ (List.mem_append_left _ (List.mem_append_left _ (List.mem_append_left _ (List.mem_append_right _ h))))
theorem zB_X11_passesLonger_X60 : ∀ w ∈ wsX60, w ∈ wsX11_passesLonger := fun _ h => List.mem_cons_of_mem _ (List.mem_append_left _ (List.mem_append_left _ (List.mem_append_right _ h)))
set_option maxRecDepth 100000 in
theorem ggX11_passesLonger_X6_fill : GoodIn wsX11_passesLonger wsX6_fill := goodIn_hd (goodIn_c zc_wsX11_passesLonger_in [(0, 9)] rfl (by decide +kernel)) (goodIn_app (goodIn_app (goodIn_app (goodIn_c zc_wsX11_passesLonger_in [(0, 10), (0, 11), (0, 12), (0, 13), (0, 14), (0, 15), (0, 16), (0, 17), (0, 8), (0, 18), (0, 19), (0, 20), (0, 21), (0, 22), (0, 23), (1, 0), (1, 1), (1, 2), (1, 3), (1, 4), (1, 5), (1, 6), (1, 7), (1, 8)] rfl (by decide +kernel)) (goodIn_app (goodIn_c zc_wsX11_passesLonger_in [(1, 9), (1, 10), (1, 11), (1, 12), (1, 13), (1, 14), (1, 15), (1, 16), (1, 17), (1, 18), (1, 19), (1, 20), (1, 21), (1, 22), (1, 23), (2, 0), (2, 1), (2, 2), (2, 3), (2, 4), (2, 5), (2, 6), (2, 7), (2, 8)] rfl (by decide +kernel)) (goodIn_app (goodIn_c zc_wsX11_passesLonger_in [(2, 9), (2, 10), (2, 11), (2, 12), (2, 13), (2, 14), (2, 15), (2, 16), (2, 17), (2, 18), (2, 19), (2, 20), (2, 21), (2, 22), (2, 23), (3, 0), (3, 1), (3, 2), (3, 3), (3, 4), (3, 5), (3, 6), (3, 7), (3, 8)] rfl (by decide +kernel)) (goodIn_c zc_wsX11_passesLonger_in [(3, 9), (3, 10), (3, 11), (3, 12)] rfl (by decide +kernel))))) (goodIn_sub zB_X11_passesLonger_X40 zgw_X40)) (goodIn_sub zB_X11_passesLonger_X60 zgw_X60))
set_option maxRecDepth 100000 in
theorem gX11_passesLonger_X6_fill : GoodIn wsX11_passesLonger (wsV RX11 377 RX6 yX6_fill wsX6_fill) := goodIn_app (goodIn_r _ [6, 7, 8, 9] rfl (by decide +kernel)) ggX11_passesLonger_X6_fill
theorem zB_X11_passesLonger_X70 : ∀ w ∈ wsX70, w ∈ wsX11_passesLonger := fun _ h => List.mem_cons_of_mem _ (List.mem_append_left _ (List.mem_append_right _ h))
theorem zB_X11_passesLonger_X90 : ∀ w ∈ wsX90, w ∈ wsX11_passesLonger := fun _ h => List.mem_cons_of_mem _ (List.mem_append_left _ (List.mem_append_left _ (List.mem_append_left _ (List.mem_append_left _ (List.mem_append_right _ h)))))
theorem zB_X11_passesLonger_X20 : ∀ w ∈ wsX20, w ∈ wsX11_passesLonger := fun _ h => List.mem_cons_of_mem _ (List.mem_append_right _ h)
set_option maxRecDepth 100000 in
theorem ggX11_passesLonger_X7_reckon : GoodIn wsX11_passesLonger wsX7_reckon := goodIn_hd (goodIn_c zc_wsX11_passesLonger_in [(3, 17)] rfl (by decide +kernel)) (goodIn_app (goodIn_app (goodIn_app (goodIn_app (goodIn_app (goodIn_app (goodIn_c zc_wsX11_passesLonger_in [(3, 18), (3, 19), (3, 20), (3, 21), (3, 22), (3, 23), (4, 0), (4, 1), (4, 2), (3, 16), (4, 3), (4, 4), (4, 5), (2, 2), (0, 22), (2, 3), (4, 6), (4, 7), (4, 8), (4, 9), (4, 10), (4, 11), (4, 12), (4, 13)] rfl (by decide +kernel)) (goodIn_app (goodIn_c zc_wsX11_passesLonger_in [(4, 14), (4, 15), (4, 16), (4, 17), (4, 18), (4, 19), (4, 20), (4, 21), (4, 22), (4, 23), (5, 0), (5, 1), (5, 2), (5, 3), (1, 5), (1, 6), (1, 7), (1, 8), (1, 9), (1, 10), (5, 4), (1, 12), (1, 13), (1, 14)] rfl (by decide +kernel)) (goodIn_app (goodIn_c zc_wsX11_passesLonger_in [(1, 15), (5, 5), (1, 21), (5, 6), (5, 7), (5, 8), (5, 9), (0, 8), (5, 10), (3, 6), (3, 7), (3, 8), (0, 11), (0, 12), (2, 16), (1, 4), (1, 11), (5, 11), (5, 12), (5, 13), (5, 14), (5, 15), (5, 16), (3, 3)] rfl (by decide +kernel)) (goodIn_c zc_wsX11_passesLonger_in [(3, 4), (3, 5), (5, 17), (5, 18), (5, 19), (5, 20), (5, 21), (5, 22), (5, 23), (6, 0), (6, 1)] rfl (by decide +kernel))))) (goodIn_sub zB_X11_passesLonger_X70 zgw_X70)) (goodIn_sub zB_X11_passesLonger_X90 zgw_X90)) (goodIn_sub zB_X11_passesLonger_X40 zgw_X40)) (goodIn_sub zB_X11_passesLonger_X20 zgw_X20)) (goodIn_sub zB_X11_passesLonger_X60 zgw_X60))
set_option maxRecDepth 100000 in
theorem gX11_passesLonger_X7_reckon : GoodIn wsX11_passesLonger (wsV RX11 238 RX7 yX7_reckon wsX7_reckon) := goodIn_app (goodIn_r _ [86, 87, 88, 89] rfl (by decide +kernel)) ggX11_passesLonger_X7_reckon
noncomputable def zc_wsX11_takeCheapest : List (List Cond) := [wsX11_takeCheapest_r1, wsX11_takeCheapest_r2, wsX11_takeCheapest_r3, wsX11_takeCheapest_r4, wsX11_takeCheapest_r5, wsX11_takeCheapest_r6, wsX11_takeCheapest_r7, wsX110, wsX10, wsX90, wsX40, wsX20, wsX70, wsX60]
set_option maxRecDepth 20000 in
theorem zc_wsX11_takeCheapest_in : ∀ l ∈ zc_wsX11_takeCheapest, ∀ w ∈ l, w ∈ wsX11_takeCheapest := by
  intro l hl
  unfold zc_wsX11_takeCheapest at hl
  rcases List.mem_cons.mp hl with e | hl
  · rw [e]
    exact fun w h => List.mem_cons_of_mem _ (List.mem_append_left _ (List.mem_append_left _ (List.mem_append_left _ (List.mem_append_left _ (List.mem_append_left _ (List.mem_append_left _ (List.mem_append_left _ (List.mem_append_left _ h))))))))
  rcases List.mem_cons.mp hl with e | hl
  · rw [e]
    exact fun w h => List.mem_cons_of_mem _ (List.mem_append_left _ (List.mem_append_left _ (List.mem_append_left _ (List.mem_append_left _ (List.mem_append_left _ (List.mem_append_left _ (List.mem_append_left _ (List.mem_append_right _ (List.mem_append_left _ h)))))))))
  rcases List.mem_cons.mp hl with e | hl
  · rw [e]
    exact fun w h => List.mem_cons_of_mem _ (List.mem_append_left _ (List.mem_append_left _ (List.mem_append_left _ (List.mem_append_left _ (List.mem_append_left _ (List.mem_append_left _ (List.mem_append_left _ (List.mem_append_right _ (List.mem_append_right _ (List.mem_append_left _ h))))))))))
  rcases List.mem_cons.mp hl with e | hl
  · rw [e]
    exact fun w h => List.mem_cons_of_mem _ (List.mem_append_left _ (List.mem_append_left _ (List.mem_append_left _ (List.mem_append_left _ (List.mem_append_left _ (List.mem_append_left _ (List.mem_append_left _ (List.mem_append_right _ (List.mem_append_right _ (List.mem_append_right _ (List.mem_append_left _ h)))))))))))
  rcases List.mem_cons.mp hl with e | hl
  · rw [e]
    exact fun w h => List.mem_cons_of_mem _ (List.mem_append_left _ (List.mem_append_left _ (List.mem_append_left _ (List.mem_append_left _ (List.mem_append_left _ (List.mem_append_left _ (List.mem_append_left _ (List.mem_append_right _ (List.mem_append_right _ (List.mem_append_right _ (List.mem_append_right _ (List.mem_append_left _ h))))))))))))
  rcases List.mem_cons.mp hl with e | hl
  · rw [e]
    exact fun w h => List.mem_cons_of_mem _ (List.mem_append_left _ (List.mem_append_left _ (List.mem_append_left _ (List.mem_append_left _ (List.mem_append_left _ (List.mem_append_left _ (List.mem_append_left _ (List.mem_append_right _ (List.mem_append_right _ (List.mem_append_right _ (List.mem_append_right _ (List.mem_append_right _ (List.mem_append_left _ h)))))))))))))
  rcases List.mem_cons.mp hl with e | hl
  · rw [e]
    exact fun w h => List.mem_cons_of_mem _ (List.mem_append_left _ (List.mem_append_left _ (List.mem_append_left _ (List.mem_append_left _ (List.mem_append_left _ (List.mem_append_left _ (List.mem_append_left _ (List.mem_append_right _ (List.mem_append_right _ (List.mem_append_right _ (List.mem_append_right _ (List.mem_append_right _ (List.mem_append_right _ h)))))))))))))
  rcases List.mem_cons.mp hl with e | hl
  · rw [e]
    exact fun w h => List.mem_cons_of_mem _ (List.mem_append_left _ (List.mem_append_left _ (List.mem_append_left _ (List.mem_append_left _ (List.mem_append_left _ (List.mem_append_left _ (List.mem_append_right _ h)))))))
  rcases List.mem_cons.mp hl with e | hl
  · rw [e]
    exact fun w h => List.mem_cons_of_mem _ (List.mem_append_left _ (List.mem_append_left _ (List.mem_append_left _ (List.mem_append_left _ (List.mem_append_left _ (List.mem_append_right _ h))))))
  rcases List.mem_cons.mp hl with e | hl
  · rw [e]
    exact fun w h => List.mem_cons_of_mem _ (List.mem_append_left _ (List.mem_append_left _ (List.mem_append_left _ (List.mem_append_left _ (List.mem_append_right _ h)))))
  rcases List.mem_cons.mp hl with e | hl
  · rw [e]
    exact fun w h => List.mem_cons_of_mem _ (List.mem_append_left _ (List.mem_append_left _ (List.mem_append_left _ (List.mem_append_right _ h))))
  rcases List.mem_cons.mp hl with e | hl
  · rw [e]
    exact fun w h => List.mem_cons_of_mem _ (List.mem_append_left _ (List.mem_append_left _ (List.mem_append_right _ h)))
  rcases List.mem_cons.mp hl with e | hl
  · rw [e]
    exact fun w h => List.mem_cons_of_mem _ (List.mem_append_left _ (List.mem_append_right _ h))
  rcases List.mem_cons.mp hl with e | hl
  · rw [e]
    exact fun w h => List.mem_cons_of_mem _ (List.mem_append_right _ h)
  cases hl
theorem zB_X11_takeCheapest_X90 : ∀ w ∈ wsX90, w ∈ wsX11_takeCheapest := fun _ h => List.mem_cons_of_mem _ (List.mem_append_left _ (List.mem_append_left _ (List.mem_append_left _ (List.mem_append_left _ (List.mem_append_right _ h)))))
theorem zB_X11_takeCheapest_X40 : ∀ w ∈ wsX40, w ∈ wsX11_takeCheapest := fun _ h => List.mem_cons_of_mem _ (List.mem_append_left _ (List.mem_append_left _ (List.mem_append_left _ (List.mem_append_right _ h))))
theorem zB_X11_takeCheapest_X20 : ∀ w ∈ wsX20, w ∈ wsX11_takeCheapest := fun _ h => List.mem_cons_of_mem _ (List.mem_append_left _ (List.mem_append_left _ (List.mem_append_right _ h)))
theorem zB_X11_takeCheapest_X10 : ∀ w ∈ wsX10, w ∈ wsX11_takeCheapest := fun _ h => List.mem_cons_of_mem _ (List.mem_append_left _ (List.mem_append_left _ (List.mem_append_left _ (List.mem_append_left _ (List.mem_append_left _ (List.mem_append_right _ h))))))
theorem zB_X11_takeCheapest_X70 : ∀ w ∈ wsX70, w ∈ wsX11_takeCheapest := fun _ h => List.mem_cons_of_mem _ (List.mem_append_left _ (List.mem_append_right _ h))
theorem zB_X11_takeCheapest_X60 : ∀ w ∈ wsX60, w ∈ wsX11_takeCheapest := fun _ h => List.mem_cons_of_mem _ (List.mem_append_right _ h)
set_option maxRecDepth 100000 in
theorem ggX11_takeCheapest_X1_search : GoodIn wsX11_takeCheapest wsX1_search := goodIn_hd (goodIn_c zc_wsX11_takeCheapest_in [(0, 8)] rfl (by decide +kernel)) (goodIn_app (goodIn_app (goodIn_app (goodIn_app (goodIn_app (goodIn_app (goodIn_app (goodIn_c zc_wsX11_takeCheapest_in [(0, 9), (0, 10), (0, 11), (0, 12), (0, 13), (0, 14), (0, 15), (0, 16), (0, 17), (0, 18), (0, 19), (0, 20), (0, 21), (0, 22), (0, 23), (1, 0), (1, 1), (1, 2), (1, 3), (0, 7), (1, 4), (1, 5), (1, 6), (1, 7)] rfl (by decide +kernel)) (goodIn_app (goodIn_c zc_wsX11_takeCheapest_in [(1, 8), (1, 9), (1, 10), (1, 11), (1, 12), (1, 13), (1, 14), (1, 15), (1, 16), (1, 17), (1, 18), (1, 19), (1, 20), (1, 21), (1, 22), (1, 23), (2, 0), (2, 1), (2, 2), (2, 3), (2, 4), (2, 5), (2, 6), (2, 7)] rfl (by decide +kernel)) (goodIn_app (goodIn_c zc_wsX11_takeCheapest_in [(2, 8), (2, 9), (2, 10), (2, 11), (2, 12), (2, 13), (2, 14), (2, 15), (2, 16), (2, 17), (2, 18), (2, 19), (2, 20), (2, 21), (2, 22), (2, 23), (3, 0), (3, 1), (3, 2), (3, 3), (3, 4), (3, 5), (3, 6), (3, 7)] rfl (by decide +kernel)) (goodIn_app (goodIn_c zc_wsX11_takeCheapest_in [(3, 8), (3, 9), (3, 10), (3, 11), (3, 12), (3, 13), (3, 14), (3, 15), (3, 16), (3, 17), (3, 18), (3, 19), (3, 20), (3, 21), (3, 22), (3, 23), (4, 0), (4, 1), (4, 2), (4, 3), (4, 4), (4, 5), (4, 6), (4, 7)] rfl (by decide +kernel)) (goodIn_app (goodIn_c zc_wsX11_takeCheapest_in [(4, 8), (4, 9), (4, 10), (4, 11), (4, 12), (4, 13), (4, 14), (4, 15), (4, 16), (4, 17), (4, 18), (4, 19), (4, 20), (4, 21), (4, 22), (4, 23), (5, 0), (5, 1), (5, 2), (5, 3), (5, 4), (5, 5), (5, 6), (5, 7)] rfl (by decide +kernel)) (goodIn_app (goodIn_c zc_wsX11_takeCheapest_in [(5, 8), (5, 9), (5, 10), (5, 11), (5, 12), (5, 13), (5, 14), (5, 15), (5, 16), (5, 17), (5, 18), (5, 19), (5, 20), (5, 21), (5, 22), (5, 23), (6, 0), (6, 1), (6, 2), (6, 3), (6, 4), (6, 5), (6, 6), (6, 7)] rfl (by decide +kernel)) (goodIn_c zc_wsX11_takeCheapest_in [(6, 8), (6, 9), (6, 10), (6, 11), (6, 12), (6, 13), (6, 14), (6, 15)] rfl (by decide +kernel)))))))) (goodIn_sub zB_X11_takeCheapest_X90 zgw_X90)) (goodIn_sub zB_X11_takeCheapest_X40 zgw_X40)) (goodIn_sub zB_X11_takeCheapest_X20 zgw_X20)) (goodIn_sub zB_X11_takeCheapest_X10 zgw_X10)) (goodIn_sub zB_X11_takeCheapest_X70 zgw_X70)) (goodIn_sub zB_X11_takeCheapest_X60 zgw_X60))
set_option maxRecDepth 100000 in
theorem gX11_takeCheapest_X1_search : GoodIn wsX11_takeCheapest (wsV RX11 273 RX1 yX1_search wsX1_search) := goodIn_app (goodIn_r _ [5, 6, 7, 8] rfl (by decide +kernel)) ggX11_takeCheapest_X1_search
set_option maxRecDepth 100000 in
theorem ggX11_takeCheapest_X1_unfold : GoodIn wsX11_takeCheapest wsX1_unfold := goodIn_hd (goodIn_c zc_wsX11_takeCheapest_in [(2, 5)] rfl (by decide +kernel)) (goodIn_app (goodIn_app (goodIn_c zc_wsX11_takeCheapest_in [(0, 11), (2, 6), (2, 7), (1, 5)] rfl (by decide +kernel)) (goodIn_sub zB_X11_takeCheapest_X90 zgw_X90)) (goodIn_sub zB_X11_takeCheapest_X20 zgw_X20))
set_option maxRecDepth 100000 in
theorem gX11_takeCheapest_X1_unfold : GoodIn wsX11_takeCheapest (va_wsS RX11 283 yX1_unfold wsX1_unfold) := goodIn_app (goodIn_r _ [161, 53, 8] rfl (by decide +kernel)) ggX11_takeCheapest_X1_unfold
noncomputable def zc_wsX11_takeSingle : List (List Cond) := [wsX11_takeSingle_r1, wsX11_takeSingle_r2, wsX11_takeSingle_r3, wsX11_takeSingle_r4, wsX11_takeSingle_r5, wsX11_takeSingle_r6, wsX110, wsX90, wsX30, wsX40, wsX20, wsX70, wsX60]
set_option maxRecDepth 20000 in
theorem zc_wsX11_takeSingle_in : ∀ l ∈ zc_wsX11_takeSingle, ∀ w ∈ l, w ∈ wsX11_takeSingle := by
  intro l hl
  unfold zc_wsX11_takeSingle at hl
  rcases List.mem_cons.mp hl with e | hl
  · rw [e]
    exact fun w h => List.mem_cons_of_mem _ (List.mem_append_left _ (List.mem_append_left _ (List.mem_append_left _ (List.mem_append_left _ (List.mem_append_left _ (List.mem_append_left _ (List.mem_append_left _ (List.mem_append_left _ h))))))))
  rcases List.mem_cons.mp hl with e | hl
  · rw [e]
    exact fun w h => List.mem_cons_of_mem _ (List.mem_append_left _ (List.mem_append_left _ (List.mem_append_left _ (List.mem_append_left _ (List.mem_append_left _ (List.mem_append_left _ (List.mem_append_left _ (List.mem_append_right _ (List.mem_append_left _ h)))))))))
  rcases List.mem_cons.mp hl with e | hl
  · rw [e]
    exact fun w h => List.mem_cons_of_mem _ (List.mem_append_left _ (List.mem_append_left _ (List.mem_append_left _ (List.mem_append_left _ (List.mem_append_left _ (List.mem_append_left _ (List.mem_append_left _ (List.mem_append_right _ (List.mem_append_right _ (List.mem_append_left _ h))))))))))
  rcases List.mem_cons.mp hl with e | hl
  · rw [e]
    exact fun w h => List.mem_cons_of_mem _ (List.mem_append_left _ (List.mem_append_left _ (List.mem_append_left _ (List.mem_append_left _ (List.mem_append_left _ (List.mem_append_left _ (List.mem_append_left _ (List.mem_append_right _ (List.mem_append_right _ (List.mem_append_right _ (List.mem_append_left _ h)))))))))))
  rcases List.mem_cons.mp hl with e | hl
  · rw [e]
    exact fun w h => List.mem_cons_of_mem _ (List.mem_append_left _ (List.mem_append_left _ (List.mem_append_left _ (List.mem_append_left _ (List.mem_append_left _ (List.mem_append_left _ (List.mem_append_left _ (List.mem_append_right _ (List.mem_append_right _ (List.mem_append_right _ (List.mem_append_right _ (List.mem_append_left _ h))))))))))))
  rcases List.mem_cons.mp hl with e | hl
  · rw [e]
    exact fun w h => List.mem_cons_of_mem _ (List.mem_append_left _ (List.mem_append_left _ (List.mem_append_left _ (List.mem_append_left _ (List.mem_append_left _ (List.mem_append_left _ (List.mem_append_left _ (List.mem_append_right _ (List.mem_append_right _ (List.mem_append_right _ (List.mem_append_right _ (List.mem_append_right _ h))))))))))))
  rcases List.mem_cons.mp hl with e | hl
  · rw [e]
    exact fun w h => List.mem_cons_of_mem _ (List.mem_append_left _ (List.mem_append_left _ (List.mem_append_left _ (List.mem_append_left _ (List.mem_append_left _ (List.mem_append_left _ (List.mem_append_right _ h)))))))
  rcases List.mem_cons.mp hl with e | hl
  · rw [e]
    exact fun w h => List.mem_cons_of_mem _ (List.mem_append_left _ (List.mem_append_left _ (List.mem_append_left _ (List.mem_append_left _ (List.mem_append_left _ (List.mem_append_right _ h))))))
  rcases List.mem_cons.mp hl with e | hl
  · rw [e]
    exact fun w h => List.mem_cons_of_mem _ (List.mem_append_left _ (List.mem_append_left _ (List.mem_append_left _ (List.mem_append_left _ (List.mem_append_right _ h)))))
  rcases List.mem_cons.mp hl with e | hl
  · rw [e]
    exact fun w h => List.mem_cons_of_mem _ (List.mem_append_left _ (List.mem_append_left _ (List.mem_append_left _ (List.mem_append_right _ h))))
  rcases List.mem_cons.mp hl with e | hl
  · rw [e]
    exact fun w h => List.mem_cons_of_mem _ (List.mem_append_left _ (List.mem_append_left _ (List.mem_append_right _ h)))
  rcases List.mem_cons.mp hl with e | hl
  · rw [e]
    exact fun w h => List.mem_cons_of_mem _ (List.mem_append_left _ (List.mem_append_right _ h))
  rcases List.mem_cons.mp hl with e | hl
  · rw [e]
    exact fun w h => List.mem_cons_of_mem _ (List.mem_append_right _ h)
  cases hl
