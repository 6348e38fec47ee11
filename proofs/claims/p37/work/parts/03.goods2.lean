theorem zB_X11_takeSingle_X90 : ∀ w ∈ wsX90, w ∈ wsX11_takeSingle := fun _ h => List.mem_cons_of_mem _ (List.mem_append_left _ (List.mem_append_left _ (List.mem_append_left _ (List.mem_append_left _ (List.mem_append_left _ (List.mem_append_right _ h))))))
theorem zB_X11_takeSingle_X40 : ∀ w ∈ wsX40, w ∈ wsX11_takeSingle := fun _ h => List.mem_cons_of_mem _ (List.mem_append_left _ (List.mem_append_left _ (List.mem_append_left _ (List.mem_append_right _ h))))
theorem zB_X11_takeSingle_X20 : ∀ w ∈ wsX20, w ∈ wsX11_takeSingle := fun _ h => List.mem_cons_of_mem _ (List.mem_append_left _ (List.mem_append_left _ (List.mem_append_right _ h)))
set_option maxRecDepth 100000 in
theorem ggX11_takeSingle_X9_hasChoice : GoodIn wsX11_takeSingle wsX9_hasChoice := goodIn_hd (goodIn_c zc_wsX11_takeSingle_in [(0, 10)] rfl (by decide +kernel)) (goodIn_app (goodIn_app (goodIn_app (goodIn_c zc_wsX11_takeSingle_in [(0, 11), (0, 12), (0, 13), (0, 14)] rfl (by decide +kernel)) (goodIn_sub zB_X11_takeSingle_X90 zgw_X90)) (goodIn_sub zB_X11_takeSingle_X40 zgw_X40)) (goodIn_sub zB_X11_takeSingle_X20 zgw_X20))
set_option maxRecDepth 100000 in
theorem gX11_takeSingle_X9_hasChoice : GoodIn wsX11_takeSingle (wsV RX11 220 RX9 yX9_hasChoice wsX9_hasChoice) := goodIn_app (goodIn_r _ [7, 8, 9, 10] rfl (by decide +kernel)) ggX11_takeSingle_X9_hasChoice
theorem zB_X11_takeSingle_X30 : ∀ w ∈ wsX30, w ∈ wsX11_takeSingle := fun _ h => List.mem_cons_of_mem _ (List.mem_append_left _ (List.mem_append_left _ (List.mem_append_left _ (List.mem_append_left _ (List.mem_append_right _ h)))))
theorem zB_X11_takeSingle_X70 : ∀ w ∈ wsX70, w ∈ wsX11_takeSingle := fun _ h => List.mem_cons_of_mem _ (List.mem_append_left _ (List.mem_append_right _ h))
theorem zB_X11_takeSingle_X60 : ∀ w ∈ wsX60, w ∈ wsX11_takeSingle := fun _ h => List.mem_cons_of_mem _ (List.mem_append_right _ h)
set_option maxRecDepth 100000 in
theorem ggX11_takeSingle_X3_lookAround : GoodIn wsX11_takeSingle wsX3_lookAround := goodIn_hd (goodIn_c zc_wsX11_takeSingle_in [(0, 19)] rfl (by decide +kernel)) (goodIn_app (goodIn_app (goodIn_app (goodIn_app (goodIn_app (goodIn_app (goodIn_app (goodIn_c zc_wsX11_takeSingle_in [(0, 20), (0, 21), (0, 22), (0, 23), (1, 0), (1, 1), (1, 2), (1, 3), (1, 4), (1, 5), (1, 6), (1, 7), (1, 8), (1, 9), (1, 10), (1, 11), (1, 12), (0, 9), (1, 13), (1, 14), (0, 11), (0, 12), (1, 15), (1, 16)] rfl (by decide +kernel)) (goodIn_app (goodIn_c zc_wsX11_takeSingle_in [(1, 17), (1, 18), (1, 19), (1, 20), (1, 21), (1, 22), (1, 23), (2, 0), (2, 1), (2, 2), (2, 3), (2, 4), (2, 5), (2, 6), (0, 13), (2, 7), (2, 8), (2, 9), (2, 10), (2, 11), (2, 12), (2, 13), (2, 14), (2, 15)] rfl (by decide +kernel)) (goodIn_app (goodIn_c zc_wsX11_takeSingle_in [(2, 16), (2, 17), (2, 18), (2, 19), (2, 20), (2, 21), (2, 22), (2, 23), (3, 0), (3, 1), (3, 2), (3, 3), (3, 4), (3, 5), (3, 6), (3, 7), (3, 8), (3, 9), (3, 10), (3, 11), (3, 12), (3, 13), (3, 14), (3, 15)] rfl (by decide +kernel)) (goodIn_app (goodIn_c zc_wsX11_takeSingle_in [(3, 16), (3, 17), (3, 18), (3, 19), (3, 20), (3, 21), (3, 22), (3, 23), (4, 0), (4, 1), (4, 2), (4, 3), (4, 4), (4, 5), (4, 6), (4, 7), (4, 8), (4, 9), (4, 10), (4, 11), (4, 12), (4, 13), (4, 14), (4, 15)] rfl (by decide +kernel)) (goodIn_c zc_wsX11_takeSingle_in [(4, 16), (4, 17), (4, 18), (4, 19), (4, 20), (4, 21), (4, 22), (4, 23), (5, 0), (5, 1), (5, 2), (5, 3), (5, 4), (5, 5), (5, 6), (5, 7), (5, 8), (5, 9), (5, 10), (5, 11)] rfl (by decide +kernel)))))) (goodIn_sub zB_X11_takeSingle_X30 zgw_X30)) (goodIn_sub zB_X11_takeSingle_X90 zgw_X90)) (goodIn_sub zB_X11_takeSingle_X20 zgw_X20)) (goodIn_sub zB_X11_takeSingle_X40 zgw_X40)) (goodIn_sub zB_X11_takeSingle_X70 zgw_X70)) (goodIn_sub zB_X11_takeSingle_X60 zgw_X60))
set_option maxRecDepth 100000 in
theorem gX11_takeSingle_X3_lookAround : GoodIn wsX11_takeSingle (wsV RX11 301 RX3 yX3_lookAround wsX3_lookAround) := goodIn_app (goodIn_r _ [16, 17, 18, 19] rfl (by decide +kernel)) ggX11_takeSingle_X3_lookAround
set_option maxRecDepth 100000 in
theorem ggX11_takeSingle_X2_isFree : GoodIn wsX11_takeSingle wsX2_isFree := goodIn_r _ [137, 138, 139, 191, 192, 193, 194, 195, 196] rfl (by decide +kernel)
set_option maxRecDepth 100000 in
theorem gX11_takeSingle_X2_isFree : GoodIn wsX11_takeSingle (wsV RX11 381 RX2 yX2_isFree wsX2_isFree) := goodIn_app (goodIn_r _ [133, 134, 135, 136] rfl (by decide +kernel)) ggX11_takeSingle_X2_isFree
set_option maxRecDepth 100000 in
theorem ggX11_nearest_J9_floorDiv_f86c9 : GoodIn wsX11_nearest wsJ9_floorDiv_f86c9 := goodIn_r _ [5] rfl (by decide +kernel)
set_option maxRecDepth 100000 in
theorem gX11_nearest_J9_floorDiv_f86c9 : GoodIn wsX11_nearest (va_wsS RX11 386 yJ9_floorDiv_f86c9 wsJ9_floorDiv_f86c9) := goodIn_app (goodIn_r _ [2, 3, 4] rfl (by decide +kernel)) ggX11_nearest_J9_floorDiv_f86c9
set_option maxRecDepth 100000 in
theorem ggX11_apply_X11_nearest : GoodIn wsX11_apply wsX11_nearest := goodIn_r _ [12, 13, 14, 15, 16, 17] rfl (by decide +kernel)
set_option maxRecDepth 100000 in
theorem gX11_apply_X11_nearest : GoodIn wsX11_apply (va_wsS RX11 391 yX11_nearest wsX11_nearest) := goodIn_app (goodIn_r _ [9, 10, 11] rfl (by decide +kernel)) ggX11_apply_X11_nearest
