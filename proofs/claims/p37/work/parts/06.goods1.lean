set_option maxRecDepth 100000 in
theorem gX12_handPasses_X12_passes : GoodIn wsX12_handPasses (wsV RX12 443 RX12 yX12_passes wsX12_passes) := goodIn_app (goodIn_r _ [11, 12, 13, 7] rfl (by decide +kernel)) ggX12_handPasses_X12_passes
theorem zB_X12_chosen_X120 : ∀ w ∈ wsX120, w ∈ wsX12_chosen := fun _ h => List.mem_cons_of_mem _ (List.mem_append_right _ h)
set_option maxRecDepth 100000 in
theorem ggX12_chosen_X12_isNumber : GoodIn wsX12_chosen wsX12_isNumber := goodIn_hd (goodIn_r _ [7] rfl (by decide +kernel)) (goodIn_app (goodIn_r _ [8, 9, 10, 6, 11] rfl (by decide +kernel)) (goodIn_sub zB_X12_chosen_X120 zgw_X120))
set_option maxRecDepth 100000 in
theorem gX12_chosen_X12_isNumber : GoodIn wsX12_chosen (wsV RX12 373 RX12 yX12_isNumber wsX12_isNumber) := goodIn_app (goodIn_r _ [3, 4, 5, 6] rfl (by decide +kernel)) ggX12_chosen_X12_isNumber
noncomputable def zc_wsX12_choose : List (List Cond) := [wsX12_choose_r1, wsX12_choose_r2, wsX120]
set_option maxRecDepth 20000 in
theorem zc_wsX12_choose_in : ∀ l ∈ zc_wsX12_choose, ∀ w ∈ l, w ∈ wsX12_choose := by
  intro l hl
  unfold zc_wsX12_choose at hl
  rcases List.mem_cons.mp hl with e | hl
  · rw [e]
    exact fun w h => List.mem_cons_of_mem _ (List.mem_append_left _ (List.mem_append_left _ h))
  rcases List.mem_cons.mp hl with e | hl
  · rw [e]
    exact fun w h => List.mem_cons_of_mem _ (List.mem_append_left _ (List.mem_append_right _ h))
  rcases List.mem_cons.mp hl with e | hl
  · rw [e]
    exact fun w h => List.mem_cons_of_mem _ (List.mem_append_right _ h)
  cases hl
theorem zB_X12_choose_X120 : ∀ w ∈ wsX120, w ∈ wsX12_choose := fun _ h => List.mem_cons_of_mem _ (List.mem_append_right _ h)
set_option maxRecDepth 100000 in
theorem ggX12_choose_X12_isNumber : GoodIn wsX12_choose wsX12_isNumber := goodIn_hd (goodIn_c zc_wsX12_choose_in [(0, 8)] rfl (by decide +kernel)) (goodIn_app (goodIn_c zc_wsX12_choose_in [(0, 3), (0, 9), (0, 10), (0, 7), (0, 11)] rfl (by decide +kernel)) (goodIn_sub zB_X12_choose_X120 zgw_X120))
set_option maxRecDepth 100000 in
theorem gX12_choose_X12_isNumber : GoodIn wsX12_choose (wsV RX12 373 RX12 yX12_isNumber wsX12_isNumber) := goodIn_app (goodIn_r _ [5, 6, 7, 8] rfl (by decide +kernel)) ggX12_choose_X12_isNumber
set_option maxRecDepth 100000 in
theorem ggX12_choose_X12_isFormat : GoodIn wsX12_choose wsX12_isFormat := goodIn_hd (goodIn_c zc_wsX12_choose_in [(0, 15)] rfl (by decide +kernel)) (goodIn_app (goodIn_c zc_wsX12_choose_in [(0, 16), (0, 9), (0, 10), (0, 7), (0, 11)] rfl (by decide +kernel)) (goodIn_sub zB_X12_choose_X120 zgw_X120))
set_option maxRecDepth 100000 in
theorem gX12_choose_X12_isFormat : GoodIn wsX12_choose (wsV RX12 370 RX12 yX12_isFormat wsX12_isFormat) := goodIn_app (goodIn_r _ [13, 14, 15, 8] rfl (by decide +kernel)) ggX12_choose_X12_isFormat
set_option maxRecDepth 100000 in
theorem ggX12_choose_X12_isFree : GoodIn wsX12_choose wsX12_isFree := goodIn_hd (goodIn_c zc_wsX12_choose_in [(0, 20)] rfl (by decide +kernel)) (goodIn_app (goodIn_c zc_wsX12_choose_in [(0, 3), (0, 1), (0, 21)] rfl (by decide +kernel)) (goodIn_sub zB_X12_choose_X120 zgw_X120))
set_option maxRecDepth 100000 in
theorem gX12_choose_X12_isFree : GoodIn wsX12_choose (wsV RX12 355 RX12 yX12_isFree wsX12_isFree) := goodIn_app (goodIn_r _ [18, 19, 20, 8] rfl (by decide +kernel)) ggX12_choose_X12_isFree
set_option maxRecDepth 100000 in
theorem ggX12_choose_X12_refuses : GoodIn wsX12_choose wsX12_refuses := goodIn_hd (goodIn_c zc_wsX12_choose_in [(1, 1)] rfl (by decide +kernel)) (goodIn_app (goodIn_c zc_wsX12_choose_in [(1, 2)] rfl (by decide +kernel)) (goodIn_sub zB_X12_choose_X120 zgw_X120))
set_option maxRecDepth 100000 in
theorem gX12_choose_X12_refuses : GoodIn wsX12_choose (wsV RX12 216 RX12 yX12_refuses wsX12_refuses) := goodIn_app (goodIn_r _ [23, 24, 25, 8] rfl (by decide +kernel)) ggX12_choose_X12_refuses
noncomputable def zc_wsX12_cost : List (List Cond) := [wsX12_cost_r1, wsX12_cost_r2, wsX120]
set_option maxRecDepth 20000 in
theorem zc_wsX12_cost_in : ∀ l ∈ zc_wsX12_cost, ∀ w ∈ l, w ∈ wsX12_cost := by
  intro l hl
  unfold zc_wsX12_cost at hl
  rcases List.mem_cons.mp hl with e | hl
  · rw [e]
    exact fun w h => List.mem_cons_of_mem _ (List.mem_append_left _ (List.mem_append_left _ h))
  rcases List.mem_cons.mp hl with e | hl
  · rw [e]
    exact fun w h => List.mem_cons_of_mem _ (List.mem_append_left _ (List.mem_append_right _ h))
  rcases List.mem_cons.mp hl with e | hl
  · rw [e]
    exact fun w h => List.mem_cons_of_mem _ (List.mem_append_right _ h)
  cases hl
theorem zB_X12_cost_X120 : ∀ w ∈ wsX120, w ∈ wsX12_cost := fun _ h => List.mem_cons_of_mem _ (List.mem_append_right _ h)
set_option maxRecDepth 100000 in
theorem ggX12_cost_X12_isThere : GoodIn wsX12_cost wsX12_isThere := goodIn_hd (goodIn_c zc_wsX12_cost_in [(0, 4)] rfl (by decide +kernel)) (goodIn_app (goodIn_c zc_wsX12_cost_in [(0, 5), (0, 6)] rfl (by decide +kernel)) (goodIn_sub zB_X12_cost_X120 zgw_X120))
set_option maxRecDepth 100000 in
theorem gX12_cost_X12_isThere : GoodIn wsX12_cost (wsV RX12 446 RX12 yX12_isThere wsX12_isThere) := goodIn_app (goodIn_r _ [1, 2, 3, 4] rfl (by decide +kernel)) ggX12_cost_X12_isThere
set_option maxRecDepth 100000 in
theorem ggX12_cost_X12_triesHand : GoodIn wsX12_cost wsX12_triesHand := goodIn_hd (goodIn_c zc_wsX12_cost_in [(0, 10)] rfl (by decide +kernel)) (goodIn_app (goodIn_c zc_wsX12_cost_in [(0, 6), (0, 11), (0, 12)] rfl (by decide +kernel)) (goodIn_sub zB_X12_cost_X120 zgw_X120))
set_option maxRecDepth 100000 in
theorem gX12_cost_X12_triesHand : GoodIn wsX12_cost (wsV RX12 440 RX12 yX12_triesHand wsX12_triesHand) := goodIn_app (goodIn_r _ [8, 9, 10, 4] rfl (by decide +kernel)) ggX12_cost_X12_triesHand
set_option maxRecDepth 100000 in
theorem ggX12_cost_X12_costTried : GoodIn wsX12_cost wsX12_costTried := goodIn_hd (goodIn_c zc_wsX12_cost_in [(0, 16)] rfl (by decide +kernel)) (goodIn_app (goodIn_c zc_wsX12_cost_in [(0, 17), (0, 6), (0, 18), (0, 11), (0, 19), (0, 20), (0, 21), (0, 3), (0, 22), (0, 23), (1, 0), (1, 1), (1, 2), (1, 3), (1, 4)] rfl (by decide +kernel)) (goodIn_sub zB_X12_cost_X120 zgw_X120))
set_option maxRecDepth 100000 in
theorem gX12_cost_X12_costTried : GoodIn wsX12_cost (wsV RX12 449 RX12 yX12_costTried wsX12_costTried) := goodIn_app (goodIn_r _ [14, 15, 16, 4] rfl (by decide +kernel)) ggX12_cost_X12_costTried
theorem zB_X12_casts_X120 : ∀ w ∈ wsX120, w ∈ wsX12_casts := fun _ h => List.mem_cons_of_mem _ (List.mem_append_right _ h)
set_option maxRecDepth 100000 in
theorem ggX12_casts_X12_isThere : GoodIn wsX12_casts wsX12_isThere := goodIn_hd (goodIn_r _ [5] rfl (by decide +kernel)) (goodIn_app (goodIn_r _ [6, 7] rfl (by decide +kernel)) (goodIn_sub zB_X12_casts_X120 zgw_X120))
set_option maxRecDepth 100000 in
theorem gX12_casts_X12_isThere : GoodIn wsX12_casts (wsV RX12 446 RX12 yX12_isThere wsX12_isThere) := goodIn_app (goodIn_r _ [1, 2, 3, 4] rfl (by decide +kernel)) ggX12_casts_X12_isThere
set_option maxRecDepth 100000 in
theorem ggX12_casts_X12_triesHand : GoodIn wsX12_casts wsX12_triesHand := goodIn_hd (goodIn_r _ [11] rfl (by decide +kernel)) (goodIn_app (goodIn_r _ [7, 12, 13] rfl (by decide +kernel)) (goodIn_sub zB_X12_casts_X120 zgw_X120))
set_option maxRecDepth 100000 in
theorem gX12_casts_X12_triesHand : GoodIn wsX12_casts (wsV RX12 440 RX12 yX12_triesHand wsX12_triesHand) := goodIn_app (goodIn_r _ [8, 9, 10, 4] rfl (by decide +kernel)) ggX12_casts_X12_triesHand
set_option maxRecDepth 100000 in
theorem ggX12_casts_X12_castsTried : GoodIn wsX12_casts wsX12_castsTried := goodIn_hd (goodIn_r _ [17] rfl (by decide +kernel)) (goodIn_app (goodIn_r _ [7, 18, 19, 20, 21, 22, 4, 23, 12] rfl (by decide +kernel)) (goodIn_sub zB_X12_casts_X120 zgw_X120))
set_option maxRecDepth 100000 in
theorem gX12_casts_X12_castsTried : GoodIn wsX12_casts (wsV RX12 437 RX12 yX12_castsTried wsX12_castsTried) := goodIn_app (goodIn_r _ [14, 15, 16, 4] rfl (by decide +kernel)) ggX12_casts_X12_castsTried
noncomputable def zc_wsX12_fails : List (List Cond) := [wsX12_fails_r1, wsX12_fails_r2, wsX12_fails_r3, wsX12_fails_r4, wsX120]
set_option maxRecDepth 20000 in
theorem zc_wsX12_fails_in : ∀ l ∈ zc_wsX12_fails, ∀ w ∈ l, w ∈ wsX12_fails := by
  intro l hl
  unfold zc_wsX12_fails at hl
  rcases List.mem_cons.mp hl with e | hl
  · rw [e]
    exact fun w h => List.mem_cons_of_mem _ (List.mem_append_left _ (List.mem_append_left _ h))
  rcases List.mem_cons.mp hl with e | hl
  · rw [e]
    exact fun w h => List.mem_cons_of_mem _ (List.mem_append_left _ (List.mem_append_right _ (List.mem_append_left _ h)))
  rcases List.mem_cons.mp hl with e | hl
  · rw [e]
    exact fun w h => List.mem_cons_of_mem _ (List.mem_append_left _ (List.mem_append_right _ (List.mem_append_right _ (List.mem_append_left _ h))))
  rcases List.mem_cons.mp hl with e | hl
  · rw [e]
    exact fun w h => List.mem_cons_of_mem _ (List.mem_append_left _ (List.mem_append_right _ (List.mem_append_right _ (List.mem_append_right _ h))))
  rcases List.mem_cons.mp hl with e | hl
  · rw [e]
    exact fun w h => List.mem_cons_of_mem _ (List.mem_append_right _ h)
  cases hl
theorem zB_X12_fails_X120 : ∀ w ∈ wsX120, w ∈ wsX12_fails := fun _ h => List.mem_cons_of_mem _ (List.mem_append_right _ h)
set_option maxRecDepth 100000 in
theorem ggX12_fails_X12_isThere : GoodIn wsX12_fails wsX12_isThere := goodIn_hd (goodIn_c zc_wsX12_fails_in [(0, 5)] rfl (by decide +kernel)) (goodIn_app (goodIn_c zc_wsX12_fails_in [(0, 6), (0, 7)] rfl (by decide +kernel)) (goodIn_sub zB_X12_fails_X120 zgw_X120))
set_option maxRecDepth 100000 in
theorem gX12_fails_X12_isThere : GoodIn wsX12_fails (wsV RX12 446 RX12 yX12_isThere wsX12_isThere) := goodIn_app (goodIn_r _ [2, 3, 4, 5] rfl (by decide +kernel)) ggX12_fails_X12_isThere
set_option maxRecDepth 100000 in
theorem ggX12_fails_X12_handPasses : GoodIn wsX12_fails wsX12_handPasses := goodIn_hd (goodIn_c zc_wsX12_fails_in [(0, 11)] rfl (by decide +kernel)) (goodIn_app (goodIn_app (goodIn_c zc_wsX12_fails_in [(0, 12), (0, 6), (0, 7), (0, 13), (0, 14), (0, 15), (0, 4), (0, 16), (0, 17), (0, 18), (0, 19), (0, 20), (0, 21), (0, 22), (0, 0), (0, 23), (1, 0), (1, 1), (1, 2), (1, 3), (1, 4), (1, 5), (1, 6), (1, 7)] rfl (by decide +kernel)) (goodIn_app (goodIn_c zc_wsX12_fails_in [(1, 8), (1, 9), (1, 10), (1, 11), (1, 12), (1, 13), (1, 14), (1, 15), (1, 16), (1, 17), (1, 18), (1, 19), (1, 20), (1, 21), (1, 22), (1, 23), (2, 0), (2, 1), (2, 2), (2, 3), (2, 4), (2, 5), (2, 6), (2, 7)] rfl (by decide +kernel)) (goodIn_app (goodIn_c zc_wsX12_fails_in [(2, 8), (2, 9), (2, 10), (2, 11), (2, 12), (2, 13), (2, 14), (2, 15), (2, 16), (2, 17), (2, 18), (2, 19), (2, 20), (2, 21), (2, 22), (2, 23), (3, 0), (3, 1), (3, 2), (3, 3), (3, 4), (3, 5), (3, 6), (3, 7)] rfl (by decide +kernel)) (goodIn_c zc_wsX12_fails_in [(3, 8)] rfl (by decide +kernel))))) (goodIn_sub zB_X12_fails_X120 zgw_X120))
set_option maxRecDepth 100000 in
theorem gX12_fails_X12_handPasses : GoodIn wsX12_fails (wsV RX12 452 RX12 yX12_handPasses wsX12_handPasses) := goodIn_app (goodIn_r _ [9, 10, 11, 5] rfl (by decide +kernel)) ggX12_fails_X12_handPasses
noncomputable def zc_wsX12_why : List (List Cond) := [wsX12_why_r1, wsX12_why_r2, wsX12_why_r3, wsX12_why_r4, wsX120]
set_option maxRecDepth 20000 in
theorem zc_wsX12_why_in : ∀ l ∈ zc_wsX12_why, ∀ w ∈ l, w ∈ wsX12_why := by
  intro l hl
  unfold zc_wsX12_why at hl
  rcases List.mem_cons.mp hl with e | hl
  · rw [e]
    exact fun w h => List.mem_cons_of_mem _ (List.mem_append_left _ (List.mem_append_left _ h))
  rcases List.mem_cons.mp hl with e | hl
  · rw [e]
    exact fun w h => List.mem_cons_of_mem _ (List.mem_append_left _ (List.mem_append_right _ (List.mem_append_left _ h)))
  rcases List.mem_cons.mp hl with e | hl
  · rw [e]
    exact fun w h => List.mem_cons_of_mem _ (List.mem_append_left _ (List.mem_append_right _ (List.mem_append_right _ (List.mem_append_left _ h))))
  rcases List.mem_cons.mp hl with e | hl
  · rw [e]
    exact fun w h => List.mem_cons_of_mem _ (List.mem_append_left _ (List.mem_append_right _ (List.mem_append_right _ (List.mem_append_right _ h))))
  rcases List.mem_cons.mp hl with e | hl
  · rw [e]
    exact fun w h => List.mem_cons_of_mem _ (List.mem_append_right _ h)
  cases hl
theorem zB_X12_why_X120 : ∀ w ∈ wsX120, w ∈ wsX12_why := fun _ h => List.mem_cons_of_mem _ (List.mem_append_right _ h)
set_option maxRecDepth 100000 in
theorem ggX12_why_X12_isThere : GoodIn wsX12_why wsX12_isThere := goodIn_hd (goodIn_c zc_wsX12_why_in [(0, 5)] rfl (by decide +kernel)) (goodIn_app (goodIn_c zc_wsX12_why_in [(0, 6), (0, 7)] rfl (by decide +kernel)) (goodIn_sub zB_X12_why_X120 zgw_X120))
set_option maxRecDepth 100000 in
theorem gX12_why_X12_isThere : GoodIn wsX12_why (wsV RX12 446 RX12 yX12_isThere wsX12_isThere) := goodIn_app (goodIn_r _ [2, 3, 4, 5] rfl (by decide +kernel)) ggX12_why_X12_isThere
set_option maxRecDepth 100000 in
theorem ggX12_why_X12_handPasses : GoodIn wsX12_why wsX12_handPasses := goodIn_hd (goodIn_c zc_wsX12_why_in [(0, 11)] rfl (by decide +kernel)) (goodIn_app (goodIn_app (goodIn_c zc_wsX12_why_in [(0, 12), (0, 6), (0, 7), (0, 13), (0, 14), (0, 15), (0, 4), (0, 16), (0, 17), (0, 18), (0, 19), (0, 20), (0, 21), (0, 22), (0, 23), (0, 0), (1, 0), (1, 1), (1, 2), (1, 3), (1, 4), (1, 5), (1, 6), (1, 7)] rfl (by decide +kernel)) (goodIn_app (goodIn_c zc_wsX12_why_in [(1, 8), (1, 9), (1, 10), (1, 11), (1, 12), (1, 13), (1, 14), (1, 15), (1, 16), (1, 17), (1, 18), (1, 19), (1, 20), (1, 21), (1, 22), (1, 23), (2, 0), (2, 1), (2, 2), (2, 3), (2, 4), (2, 5), (2, 6), (2, 7)] rfl (by decide +kernel)) (goodIn_app (goodIn_c zc_wsX12_why_in [(2, 8), (2, 9), (2, 10), (2, 11), (2, 12), (2, 13), (2, 14), (2, 15), (2, 16), (2, 17), (2, 18), (2, 19), (2, 20), (2, 21), (2, 22), (2, 23), (3, 0), (3, 1), (3, 2), (3, 3), (3, 4), (3, 5), (3, 6), (3, 7)] rfl (by decide +kernel)) (goodIn_c zc_wsX12_why_in [(3, 8)] rfl (by decide +kernel))))) (goodIn_sub zB_X12_why_X120 zgw_X120))
set_option maxRecDepth 100000 in
theorem gX12_why_X12_handPasses : GoodIn wsX12_why (wsV RX12 452 RX12 yX12_handPasses wsX12_handPasses) := goodIn_app (goodIn_r _ [9, 10, 11, 5] rfl (by decide +kernel)) ggX12_why_X12_handPasses
noncomputable def zc_wsX12_error : List (List Cond) := [wsX12_error_r1, wsX12_error_r2, wsX12_error_r3, wsX12_error_r4, wsX120]
set_option maxRecDepth 20000 in
theorem zc_wsX12_error_in : ∀ l ∈ zc_wsX12_error, ∀ w ∈ l, w ∈ wsX12_error := by
  intro l hl
  unfold zc_wsX12_error at hl
  rcases List.mem_cons.mp hl with e | hl
  · rw [e]
    exact fun w h => List.mem_cons_of_mem _ (List.mem_append_left _ (List.mem_append_left _ h))
  rcases List.mem_cons.mp hl with e | hl
  · rw [e]
    exact fun w h => List.mem_cons_of_mem _ (List.mem_append_left _ (List.mem_append_right _ (List.mem_append_left _ h)))
  rcases List.mem_cons.mp hl with e | hl
  · rw [e]
    exact fun w h => List.mem_cons_of_mem _ (List.mem_append_left _ (List.mem_append_right _ (List.mem_append_right _ (List.mem_append_left _ h))))
  rcases List.mem_cons.mp hl with e | hl
  · rw [e]
    exact fun w h => List.mem_cons_of_mem _ (List.mem_append_left _ (List.mem_append_right _ (List.mem_append_right _ (List.mem_append_right _ h))))
  rcases List.mem_cons.mp hl with e | hl
  · rw [e]
    exact fun w h => List.mem_cons_of_mem _ (List.mem_append_right _ h)
  cases hl
theorem zB_X12_error_X120 : ∀ w ∈ wsX120, w ∈ wsX12_error := fun _ h => List.mem_cons_of_mem _ (List.mem_append_right _ h)
set_option maxRecDepth 100000 in
theorem ggX12_error_X12_isThere : GoodIn wsX12_error wsX12_isThere := goodIn_hd (goodIn_c zc_wsX12_error_in [(0, 7)] rfl (by decide +kernel)) (goodIn_app (goodIn_c zc_wsX12_error_in [(0, 8), (0, 9)] rfl (by decide +kernel)) (goodIn_sub zB_X12_error_X120 zgw_X120))
set_option maxRecDepth 100000 in
theorem gX12_error_X12_isThere : GoodIn wsX12_error (wsV RX12 446 RX12 yX12_isThere wsX12_isThere) := goodIn_app (goodIn_r _ [4, 5, 6, 7] rfl (by decide +kernel)) ggX12_error_X12_isThere
set_option maxRecDepth 100000 in
theorem ggX12_error_X12_isNumber : GoodIn wsX12_error wsX12_isNumber := goodIn_hd (goodIn_c zc_wsX12_error_in [(0, 13)] rfl (by decide +kernel)) (goodIn_app (goodIn_c zc_wsX12_error_in [(0, 9), (0, 14), (0, 15), (0, 6), (0, 16)] rfl (by decide +kernel)) (goodIn_sub zB_X12_error_X120 zgw_X120))
set_option maxRecDepth 100000 in
theorem gX12_error_X12_isNumber : GoodIn wsX12_error (wsV RX12 373 RX12 yX12_isNumber wsX12_isNumber) := goodIn_app (goodIn_r _ [11, 12, 13, 7] rfl (by decide +kernel)) ggX12_error_X12_isNumber
set_option maxRecDepth 100000 in
theorem ggX12_error_X12_handPasses : GoodIn wsX12_error wsX12_handPasses := goodIn_hd (goodIn_c zc_wsX12_error_in [(0, 20)] rfl (by decide +kernel)) (goodIn_app (goodIn_app (goodIn_c zc_wsX12_error_in [(0, 21), (0, 8), (0, 9), (0, 22), (0, 23), (1, 0), (0, 6), (1, 1), (1, 2), (1, 3), (1, 4), (1, 5), (1, 6), (1, 7), (0, 1), (1, 8), (0, 2), (1, 9), (1, 10), (1, 11), (1, 12), (1, 13), (1, 14), (1, 15)] rfl (by decide +kernel)) (goodIn_app (goodIn_c zc_wsX12_error_in [(1, 16), (1, 17), (1, 18), (1, 19), (1, 20), (1, 21), (1, 22), (1, 23), (2, 0), (2, 1), (2, 2), (2, 3), (2, 4), (2, 5), (2, 6), (2, 7), (2, 8), (2, 9), (2, 10), (2, 11), (2, 12), (2, 13), (2, 14), (2, 15)] rfl (by decide +kernel)) (goodIn_app (goodIn_c zc_wsX12_error_in [(2, 16), (2, 17), (2, 18), (2, 19), (2, 20), (2, 21), (2, 22), (2, 23), (3, 0), (3, 1), (3, 2), (3, 3), (3, 4), (3, 5), (3, 6), (3, 7), (3, 8), (3, 9), (3, 10), (3, 11), (3, 12), (3, 13), (3, 14), (3, 15)] rfl (by decide +kernel)) (goodIn_c zc_wsX12_error_in [(3, 16)] rfl (by decide +kernel))))) (goodIn_sub zB_X12_error_X120 zgw_X120))
set_option maxRecDepth 100000 in
theorem gX12_error_X12_handPasses : GoodIn wsX12_error (wsV RX12 452 RX12 yX12_handPasses wsX12_handPasses) := goodIn_app (goodIn_r _ [18, 19, 20, 7] rfl (by decide +kernel)) ggX12_error_X12_handPasses
theorem zB_X12_isAnswer_X120 : ∀ w ∈ wsX120, w ∈ wsX12_isAnswer := fun _ h => List.mem_cons_of_mem _ (List.mem_append_right _ h)
set_option maxRecDepth 100000 in
theorem ggX12_isAnswer_X12_isNumber : GoodIn wsX12_isAnswer wsX12_isNumber := goodIn_hd (goodIn_r _ [6] rfl (by decide +kernel)) (goodIn_app (goodIn_r _ [7, 8, 9, 5, 10] rfl (by decide +kernel)) (goodIn_sub zB_X12_isAnswer_X120 zgw_X120))
set_option maxRecDepth 100000 in
theorem gX12_isAnswer_X12_isNumber : GoodIn wsX12_isAnswer (wsV RX12 373 RX12 yX12_isNumber wsX12_isNumber) := goodIn_app (goodIn_r _ [2, 3, 4, 5] rfl (by decide +kernel)) ggX12_isAnswer_X12_isNumber
noncomputable def zc_wsX12_slack : List (List Cond) := [wsX12_slack_r1, wsX12_slack_r2, wsX12_slack_r3, wsX12_slack_r4, wsX120]
set_option maxRecDepth 20000 in
theorem zc_wsX12_slack_in : ∀ l ∈ zc_wsX12_slack, ∀ w ∈ l, w ∈ wsX12_slack := by
  intro l hl
  unfold zc_wsX12_slack at hl
  rcases List.mem_cons.mp hl with e | hl
  · rw [e]
    exact fun w h => List.mem_cons_of_mem _ (List.mem_append_left _ (List.mem_append_left _ h))
  rcases List.mem_cons.mp hl with e | hl
  · rw [e]
    exact fun w h => List.mem_cons_of_mem _ (List.mem_append_left _ (List.mem_append_right _ (List.mem_append_left _ h)))
  rcases List.mem_cons.mp hl with e | hl
  · rw [e]
    exact fun w h => List.mem_cons_of_mem _ (List.mem_append_left _ (List.mem_append_right _ (List.mem_append_right _ (List.mem_append_left _ h))))
  rcases List.mem_cons.mp hl with e | hl
  · rw [e]
    exact fun w h => List.mem_cons_of_mem _ (List.mem_append_left _ (List.mem_append_right _ (List.mem_append_right _ (List.mem_append_right _ h))))
  rcases List.mem_cons.mp hl with e | hl
  · rw [e]
    exact fun w h => List.mem_cons_of_mem _ (List.mem_append_right _ h)
  cases hl
theorem zB_X12_slack_X120 : ∀ w ∈ wsX120, w ∈ wsX12_slack := fun _ h => List.mem_cons_of_mem _ (List.mem_append_right _ h)
set_option maxRecDepth 100000 in
theorem ggX12_slack_X12_isAnswer : GoodIn wsX12_slack wsX12_isAnswer := goodIn_hd (goodIn_c zc_wsX12_slack_in [(0, 7)] rfl (by decide +kernel)) (goodIn_app (goodIn_c zc_wsX12_slack_in [(0, 0), (0, 8), (0, 9), (0, 10), (0, 6), (0, 11), (0, 12), (0, 13), (0, 14), (0, 15)] rfl (by decide +kernel)) (goodIn_sub zB_X12_slack_X120 zgw_X120))
set_option maxRecDepth 100000 in
theorem gX12_slack_X12_isAnswer : GoodIn wsX12_slack (wsV RX12 455 RX12 yX12_isAnswer wsX12_isAnswer) := goodIn_app (goodIn_r _ [4, 5, 6, 7] rfl (by decide +kernel)) ggX12_slack_X12_isAnswer
set_option maxRecDepth 100000 in
theorem ggX12_slack_X12_handPasses : GoodIn wsX12_slack wsX12_handPasses := goodIn_hd (goodIn_c zc_wsX12_slack_in [(0, 19)] rfl (by decide +kernel)) (goodIn_app (goodIn_app (goodIn_c zc_wsX12_slack_in [(0, 20), (0, 21), (0, 12), (0, 22), (0, 23), (1, 0), (0, 6), (1, 1), (1, 2), (1, 3), (1, 4), (1, 5), (1, 6), (1, 7), (1, 8), (1, 9), (0, 1), (1, 10), (0, 0), (1, 11), (1, 12), (1, 13), (1, 14), (1, 15)] rfl (by decide +kernel)) (goodIn_app (goodIn_c zc_wsX12_slack_in [(1, 16), (1, 17), (1, 18), (1, 19), (1, 20), (1, 21), (1, 22), (1, 23), (2, 0), (2, 1), (2, 2), (2, 3), (2, 4), (2, 5), (2, 6), (2, 7), (2, 8), (2, 9), (2, 10), (2, 11), (2, 12), (2, 13), (2, 14), (2, 15)] rfl (by decide +kernel)) (goodIn_app (goodIn_c zc_wsX12_slack_in [(2, 16), (2, 17), (2, 18), (2, 19), (2, 20), (2, 21), (2, 22), (2, 23), (3, 0), (3, 1), (3, 2), (3, 3), (3, 4), (3, 5), (3, 6), (3, 7), (3, 8), (3, 9), (3, 10), (3, 11), (3, 12), (3, 13), (3, 14), (3, 15)] rfl (by decide +kernel)) (goodIn_c zc_wsX12_slack_in [(3, 16)] rfl (by decide +kernel))))) (goodIn_sub zB_X12_slack_X120 zgw_X120))
set_option maxRecDepth 100000 in
theorem gX12_slack_X12_handPasses : GoodIn wsX12_slack (wsV RX12 452 RX12 yX12_handPasses wsX12_handPasses) := goodIn_app (goodIn_r _ [17, 18, 19, 7] rfl (by decide +kernel)) ggX12_slack_X12_handPasses
noncomputable def zc_wsX12_widest : List (List Cond) := [wsX12_widest_r1, wsX12_widest_r2, wsX12_widest_r3, wsX12_widest_r4, wsX120]
set_option maxRecDepth 20000 in
theorem zc_wsX12_widest_in : ∀ l ∈ zc_wsX12_widest, ∀ w ∈ l, w ∈ wsX12_widest := by
  intro l hl
  unfold zc_wsX12_widest at hl
  rcases List.mem_cons.mp hl with e | hl
  · rw [e]
    exact fun w h => List.mem_cons_of_mem _ (List.mem_append_left _ (List.mem_append_left _ h))
  rcases List.mem_cons.mp hl with e | hl
  · rw [e]
    exact fun w h => List.mem_cons_of_mem _ (List.mem_append_left _ (List.mem_append_right _ (List.mem_append_left _ h)))
  rcases List.mem_cons.mp hl with e | hl
  · rw [e]
    exact fun w h => List.mem_cons_of_mem _ (List.mem_append_left _ (List.mem_append_right _ (List.mem_append_right _ (List.mem_append_left _ h))))
  rcases List.mem_cons.mp hl with e | hl
  · rw [e]
    exact fun w h => List.mem_cons_of_mem _ (List.mem_append_left _ (List.mem_append_right _ (List.mem_append_right _ (List.mem_append_right _ h))))
  rcases List.mem_cons.mp hl with e | hl
  · rw [e]
    exact fun w h => List.mem_cons_of_mem _ (List.mem_append_right _ h)
  cases hl
theorem zB_X12_widest_X120 : ∀ w ∈ wsX120, w ∈ wsX12_widest := fun _ h => List.mem_cons_of_mem _ (List.mem_append_right _ h)
set_option maxRecDepth 100000 in
theorem ggX12_widest_X12_isNumber : GoodIn wsX12_widest wsX12_isNumber := goodIn_hd (goodIn_c zc_wsX12_widest_in [(0, 8)] rfl (by decide +kernel)) (goodIn_app (goodIn_c zc_wsX12_widest_in [(0, 9), (0, 10), (0, 11), (0, 7), (0, 12)] rfl (by decide +kernel)) (goodIn_sub zB_X12_widest_X120 zgw_X120))
set_option maxRecDepth 100000 in
theorem gX12_widest_X12_isNumber : GoodIn wsX12_widest (wsV RX12 373 RX12 yX12_isNumber wsX12_isNumber) := goodIn_app (goodIn_r _ [5, 6, 7, 8] rfl (by decide +kernel)) ggX12_widest_X12_isNumber
set_option maxRecDepth 100000 in
theorem ggX12_widest_X12_handPasses : GoodIn wsX12_widest wsX12_handPasses := goodIn_hd (goodIn_c zc_wsX12_widest_in [(0, 16)] rfl (by decide +kernel)) (goodIn_app (goodIn_app (goodIn_c zc_wsX12_widest_in [(0, 2), (0, 17), (0, 9), (0, 18), (0, 19), (0, 20), (0, 7), (0, 21), (0, 22), (0, 23), (1, 0), (1, 1), (1, 2), (1, 3), (1, 4), (1, 5), (1, 6), (1, 7), (1, 8), (1, 9), (1, 10), (1, 11), (1, 12), (0, 0)] rfl (by decide +kernel)) (goodIn_app (goodIn_c zc_wsX12_widest_in [(0, 3), (1, 13), (1, 14), (1, 15), (1, 16), (1, 17), (1, 18), (1, 19), (1, 20), (1, 21), (1, 22), (1, 23), (2, 0), (2, 1), (2, 2), (2, 3), (2, 4), (2, 5), (2, 6), (2, 7), (2, 8), (2, 9), (2, 10), (2, 11)] rfl (by decide +kernel)) (goodIn_app (goodIn_c zc_wsX12_widest_in [(2, 12), (2, 13), (2, 14), (2, 15), (2, 16), (2, 17), (2, 18), (2, 19), (2, 20), (2, 21), (2, 22), (2, 23), (3, 0), (3, 1), (3, 2), (3, 3), (3, 4), (3, 5), (3, 6), (3, 7), (3, 8), (3, 9), (3, 10), (3, 11)] rfl (by decide +kernel)) (goodIn_c zc_wsX12_widest_in [(3, 12)] rfl (by decide +kernel))))) (goodIn_sub zB_X12_widest_X120 zgw_X120))
set_option maxRecDepth 100000 in
theorem gX12_widest_X12_handPasses : GoodIn wsX12_widest (wsV RX12 452 RX12 yX12_handPasses wsX12_handPasses) := goodIn_app (goodIn_r _ [14, 15, 16, 8] rfl (by decide +kernel)) ggX12_widest_X12_handPasses
set_option maxRecDepth 100000 in
theorem ggX12_widest_X12_passes : GoodIn wsX12_widest wsX12_passes := goodIn_hd (goodIn_c zc_wsX12_widest_in [(1, 3)] rfl (by decide +kernel)) (goodIn_app (goodIn_app (goodIn_c zc_wsX12_widest_in [(1, 4), (1, 5), (0, 9), (1, 6), (1, 7), (0, 22), (1, 8), (1, 9), (1, 10), (1, 11), (0, 7), (1, 12), (0, 0), (0, 2), (0, 3), (1, 13), (1, 14), (1, 15), (1, 16), (1, 17), (1, 18), (1, 19), (1, 20), (1, 21)] rfl (by decide +kernel)) (goodIn_app (goodIn_c zc_wsX12_widest_in [(1, 22), (1, 23), (2, 0), (2, 1), (2, 2), (2, 3), (2, 4), (2, 5), (2, 6), (2, 7), (2, 8), (2, 9), (2, 10), (2, 11), (2, 12), (2, 13), (2, 14), (2, 15), (2, 16), (2, 17), (2, 18), (2, 19), (2, 20), (2, 21)] rfl (by decide +kernel)) (goodIn_c zc_wsX12_widest_in [(2, 22), (2, 23), (3, 0), (3, 1), (3, 2), (3, 3), (3, 4), (3, 5), (3, 6), (3, 7), (3, 8), (3, 9), (3, 10), (3, 11), (3, 12)] rfl (by decide +kernel)))) (goodIn_sub zB_X12_widest_X120 zgw_X120))
set_option maxRecDepth 100000 in
theorem gX12_widest_X12_passes : GoodIn wsX12_widest (wsV RX12 443 RX12 yX12_passes wsX12_passes) := goodIn_app (goodIn_r _ [25, 26, 27, 8] rfl (by decide +kernel)) ggX12_widest_X12_passes
noncomputable def zc_wsX12_blame : List (List Cond) := [wsX12_blame_r1, wsX12_blame_r2, wsX12_blame_r3, wsX12_blame_r4, wsX12_blame_r5, wsX120]
set_option maxRecDepth 20000 in
theorem zc_wsX12_blame_in : ∀ l ∈ zc_wsX12_blame, ∀ w ∈ l, w ∈ wsX12_blame := by
  intro l hl
  unfold zc_wsX12_blame at hl
  rcases List.mem_cons.mp hl with e | hl
  · rw [e]
    exact fun w h => List.mem_cons_of_mem _ (List.mem_append_left _ (List.mem_append_left _ h))
  rcases List.mem_cons.mp hl with e | hl
  · rw [e]
    exact fun w h => List.mem_cons_of_mem _ (List.mem_append_left _ (List.mem_append_right _ (List.mem_append_left _ h)))
  rcases List.mem_cons.mp hl with e | hl
  · rw [e]
    exact fun w h => List.mem_cons_of_mem _ (List.mem_append_left _ (List.mem_append_right _ (List.mem_append_right _ (List.mem_append_left _ h))))
  rcases List.mem_cons.mp hl with e | hl
  · rw [e]
    exact fun w h => List.mem_cons_of_mem _ (List.mem_append_left _ (List.mem_append_right _ (List.mem_append_right _ (List.mem_append_right _ (List.mem_append_left _ h)))))
  rcases List.mem_cons.mp hl with e | hl
  · rw [e]
    exact fun w h => List.mem_cons_of_mem _ (List.mem_append_left _ (List.mem_append_right _ (List.mem_append_right _ (List.mem_append_right _ (List.mem_append_right _ h)))))
  rcases List.mem_cons.mp hl with e | hl
  · rw [e]
    exact fun w h => List.mem_cons_of_mem _ (List.mem_append_right _ h)
  cases hl
theorem zB_X12_blame_X120 : ∀ w ∈ wsX120, w ∈ wsX12_blame := fun _ h => List.mem_cons_of_mem _ (List.mem_append_right _ h)
set_option maxRecDepth 100000 in
theorem ggX12_blame_X12_isAnswer : GoodIn wsX12_blame wsX12_isAnswer := goodIn_hd (goodIn_c zc_wsX12_blame_in [(0, 7)] rfl (by decide +kernel)) (goodIn_app (goodIn_c zc_wsX12_blame_in [(0, 8), (0, 9), (0, 10), (0, 11), (0, 6), (0, 12), (0, 13), (0, 14), (0, 15), (0, 16)] rfl (by decide +kernel)) (goodIn_sub zB_X12_blame_X120 zgw_X120))
set_option maxRecDepth 100000 in
theorem gX12_blame_X12_isAnswer : GoodIn wsX12_blame (wsV RX12 455 RX12 yX12_isAnswer wsX12_isAnswer) := goodIn_app (goodIn_r _ [4, 5, 6, 7] rfl (by decide +kernel)) ggX12_blame_X12_isAnswer
set_option maxRecDepth 100000 in
theorem ggX12_blame_X12_isNumber : GoodIn wsX12_blame wsX12_isNumber := goodIn_hd (goodIn_c zc_wsX12_blame_in [(0, 12)] rfl (by decide +kernel)) (goodIn_app (goodIn_c zc_wsX12_blame_in [(0, 13), (0, 14), (0, 15), (0, 6), (0, 16)] rfl (by decide +kernel)) (goodIn_sub zB_X12_blame_X120 zgw_X120))
set_option maxRecDepth 100000 in
theorem gX12_blame_X12_isNumber : GoodIn wsX12_blame (wsV RX12 373 RX12 yX12_isNumber wsX12_isNumber) := goodIn_app (goodIn_r _ [10, 11, 12, 7] rfl (by decide +kernel)) ggX12_blame_X12_isNumber
set_option maxRecDepth 100000 in
theorem ggX12_blame_X12_isFree : GoodIn wsX12_blame wsX12_isFree := goodIn_hd (goodIn_c zc_wsX12_blame_in [(0, 20)] rfl (by decide +kernel)) (goodIn_app (goodIn_c zc_wsX12_blame_in [(0, 13), (0, 0), (0, 21)] rfl (by decide +kernel)) (goodIn_sub zB_X12_blame_X120 zgw_X120))
set_option maxRecDepth 100000 in
theorem gX12_blame_X12_isFree : GoodIn wsX12_blame (wsV RX12 355 RX12 yX12_isFree wsX12_isFree) := goodIn_app (goodIn_r _ [18, 19, 20, 7] rfl (by decide +kernel)) ggX12_blame_X12_isFree
set_option maxRecDepth 100000 in
theorem ggX12_blame_X12_handPasses : GoodIn wsX12_blame wsX12_handPasses := goodIn_hd (goodIn_c zc_wsX12_blame_in [(1, 1)] rfl (by decide +kernel)) (goodIn_app (goodIn_app (goodIn_c zc_wsX12_blame_in [(1, 2), (1, 3), (0, 13), (1, 4), (1, 5), (1, 6), (0, 6), (1, 7), (1, 8), (1, 9), (1, 10), (1, 11), (1, 12), (1, 13), (1, 14), (1, 15), (0, 2), (1, 16), (0, 8), (1, 17), (1, 18), (1, 19), (1, 20), (1, 21)] rfl (by decide +kernel)) (goodIn_app (goodIn_c zc_wsX12_blame_in [(1, 22), (1, 23), (2, 0), (2, 1), (2, 2), (2, 3), (2, 4), (2, 5), (2, 6), (2, 7), (2, 8), (2, 9), (2, 10), (2, 11), (2, 12), (2, 13), (2, 14), (2, 15), (2, 16), (2, 17), (2, 18), (2, 19), (2, 20), (2, 21)] rfl (by decide +kernel)) (goodIn_app (goodIn_c zc_wsX12_blame_in [(2, 22), (2, 23), (3, 0), (3, 1), (3, 2), (3, 3), (3, 4), (3, 5), (3, 6), (3, 7), (3, 8), (3, 9), (3, 10), (3, 11), (3, 12), (3, 13), (3, 14), (3, 15), (3, 16), (3, 17), (3, 18), (3, 19), (3, 20), (3, 21)] rfl (by decide +kernel)) (goodIn_c zc_wsX12_blame_in [(3, 22)] rfl (by decide +kernel))))) (goodIn_sub zB_X12_blame_X120 zgw_X120))
set_option maxRecDepth 100000 in
theorem gX12_blame_X12_handPasses : GoodIn wsX12_blame (wsV RX12 452 RX12 yX12_handPasses wsX12_handPasses) := goodIn_app (goodIn_r _ [23, 24, 25, 7] rfl (by decide +kernel)) ggX12_blame_X12_handPasses
set_option maxRecDepth 100000 in
theorem ggX12_blame_X12_finest : GoodIn wsX12_blame wsX12_finest := goodIn_hd (goodIn_c zc_wsX12_blame_in [(4, 2)] rfl (by decide +kernel)) (goodIn_app (goodIn_c zc_wsX12_blame_in [(4, 3), (3, 11)] rfl (by decide +kernel)) (goodIn_sub zB_X12_blame_X120 zgw_X120))
set_option maxRecDepth 100000 in
theorem gX12_blame_X12_finest : GoodIn wsX12_blame (wsV RX12 459 RX12 yX12_finest wsX12_finest) := goodIn_app (goodIn_r _ [96, 97, 98, 7] rfl (by decide +kernel)) ggX12_blame_X12_finest
set_option maxRecDepth 100000 in
theorem ggX12_blame_X12_triesGroup : GoodIn wsX12_blame wsX12_triesGroup := goodIn_hd (goodIn_c zc_wsX12_blame_in [(4, 7)] rfl (by decide +kernel)) (goodIn_app (goodIn_c zc_wsX12_blame_in [(0, 13), (1, 8), (0, 0)] rfl (by decide +kernel)) (goodIn_sub zB_X12_blame_X120 zgw_X120))
set_option maxRecDepth 100000 in
theorem gX12_blame_X12_triesGroup : GoodIn wsX12_blame (wsV RX12 462 RX12 yX12_triesGroup wsX12_triesGroup) := goodIn_app (goodIn_r _ [101, 102, 103, 7] rfl (by decide +kernel)) ggX12_blame_X12_triesGroup
set_option maxRecDepth 100000 in
theorem ggX12_blame_X12_passes : GoodIn wsX12_blame wsX12_passes := goodIn_hd (goodIn_c zc_wsX12_blame_in [(1, 13)] rfl (by decide +kernel)) (goodIn_app (goodIn_app (goodIn_c zc_wsX12_blame_in [(1, 14), (1, 15), (0, 13), (0, 2), (1, 16), (1, 8), (0, 8), (1, 17), (1, 18), (1, 19), (0, 6), (1, 20), (1, 21), (1, 2), (1, 22), (1, 23), (2, 0), (2, 1), (2, 2), (2, 3), (2, 4), (2, 5), (2, 6), (2, 7)] rfl (by decide +kernel)) (goodIn_app (goodIn_c zc_wsX12_blame_in [(2, 8), (2, 9), (2, 10), (2, 11), (2, 12), (2, 13), (2, 14), (2, 15), (2, 16), (2, 17), (2, 18), (2, 19), (2, 20), (2, 21), (2, 22), (2, 23), (3, 0), (3, 1), (3, 2), (3, 3), (3, 4), (3, 5), (3, 6), (3, 7)] rfl (by decide +kernel)) (goodIn_c zc_wsX12_blame_in [(3, 8), (3, 9), (3, 10), (3, 11), (3, 12), (3, 13), (3, 14), (3, 15), (3, 16), (3, 17), (3, 18), (3, 19), (3, 20), (3, 21), (3, 22)] rfl (by decide +kernel)))) (goodIn_sub zB_X12_blame_X120 zgw_X120))
set_option maxRecDepth 100000 in
theorem gX12_blame_X12_passes : GoodIn wsX12_blame (wsV RX12 443 RX12 yX12_passes wsX12_passes) := goodIn_app (goodIn_r _ [35, 36, 37, 7] rfl (by decide +kernel)) ggX12_blame_X12_passes
theorem zB_X12_canSearch_X120 : ∀ w ∈ wsX120, w ∈ wsX12_canSearch := fun _ h => List.mem_cons_of_mem _ (List.mem_append_right _ h)
set_option maxRecDepth 100000 in
theorem ggX12_canSearch_X12_laysFree : GoodIn wsX12_canSearch wsX12_laysFree := goodIn_hd (goodIn_r _ [9] rfl (by decide +kernel)) (goodIn_app (goodIn_r _ [4, 2, 10, 11, 12, 13, 14, 8, 15, 16] rfl (by decide +kernel)) (goodIn_sub zB_X12_canSearch_X120 zgw_X120))
set_option maxRecDepth 100000 in
theorem gX12_canSearch_X12_laysFree : GoodIn wsX12_canSearch (wsV RX12 358 RX12 yX12_laysFree wsX12_laysFree) := goodIn_app (goodIn_r _ [5, 6, 7, 8] rfl (by decide +kernel)) ggX12_canSearch_X12_laysFree
theorem zB_X12_triesChoice_X120 : ∀ w ∈ wsX120, w ∈ wsX12_triesChoice := fun _ h => List.mem_cons_of_mem _ (List.mem_append_right _ h)
set_option maxRecDepth 100000 in
theorem ggX12_triesChoice_X12_triesHand : GoodIn wsX12_triesChoice wsX12_triesHand := goodIn_hd (goodIn_r _ [8] rfl (by decide +kernel)) (goodIn_app (goodIn_r _ [9, 10, 11] rfl (by decide +kernel)) (goodIn_sub zB_X12_triesChoice_X120 zgw_X120))
set_option maxRecDepth 100000 in
theorem gX12_triesChoice_X12_triesHand : GoodIn wsX12_triesChoice (wsV RX12 440 RX12 yX12_triesHand wsX12_triesHand) := goodIn_app (goodIn_r _ [4, 5, 6, 7] rfl (by decide +kernel)) ggX12_triesChoice_X12_triesHand
set_option maxRecDepth 100000 in
theorem ggX12_triesChoice_X12_triesGroup : GoodIn wsX12_triesChoice wsX12_triesGroup := goodIn_hd (goodIn_r _ [15] rfl (by decide +kernel)) (goodIn_app (goodIn_r _ [9, 10, 16] rfl (by decide +kernel)) (goodIn_sub zB_X12_triesChoice_X120 zgw_X120))
set_option maxRecDepth 100000 in
theorem gX12_triesChoice_X12_triesGroup : GoodIn wsX12_triesChoice (wsV RX12 462 RX12 yX12_triesGroup wsX12_triesGroup) := goodIn_app (goodIn_r _ [12, 13, 14, 7] rfl (by decide +kernel)) ggX12_triesChoice_X12_triesGroup
noncomputable def zc_wsX12_cheapestChoice : List (List Cond) := [wsX12_cheapestChoice_r1, wsX12_cheapestChoice_r2, wsX12_cheapestChoice_r3, wsX12_cheapestChoice_r4, wsX12_cheapestChoice_r5, wsX120]
set_option maxRecDepth 20000 in
theorem zc_wsX12_cheapestChoice_in : ∀ l ∈ zc_wsX12_cheapestChoice, ∀ w ∈ l, w ∈ wsX12_cheapestChoice := by
  intro l hl
  unfold zc_wsX12_cheapestChoice at hl
  rcases List.mem_cons.mp hl with e | hl
  · rw [e]
    exact fun w h => List.mem_cons_of_mem _ (List.mem_append_left _ (List.mem_append_left _ h))
  rcases List.mem_cons.mp hl with e | hl
  · rw [e]
    exact fun w h => List.mem_cons_of_mem _ (List.mem_append_left _ (List.mem_append_right _ (List.mem_append_left _ h)))
  rcases List.mem_cons.mp hl with e | hl
  · rw [e]
    exact fun w h => List.mem_cons_of_mem _ (List.mem_append_left _ (List.mem_append_right _ (List.mem_append_right _ (List.mem_append_left _ h))))
  rcases List.mem_cons.mp hl with e | hl
  · rw [e]
    exact fun w h => List.mem_cons_of_mem _ (List.mem_append_left _ (List.mem_append_right _ (List.mem_append_right _ (List.mem_append_right _ (List.mem_append_left _ h)))))
  rcases List.mem_cons.mp hl with e | hl
  · rw [e]
    exact fun w h => List.mem_cons_of_mem _ (List.mem_append_left _ (List.mem_append_right _ (List.mem_append_right _ (List.mem_append_right _ (List.mem_append_right _ h)))))
  rcases List.mem_cons.mp hl with e | hl
  · rw [e]
    exact fun w h => List.mem_cons_of_mem _ (List.mem_append_right _ h)
  cases hl
theorem zB_X12_cheapestChoice_X120 : ∀ w ∈ wsX120, w ∈ wsX12_cheapestChoice := fun _ h => List.mem_cons_of_mem _ (List.mem_append_right _ h)
set_option maxRecDepth 100000 in
theorem ggX12_cheapestChoice_X12_allChoices : GoodIn wsX12_cheapestChoice wsX12_allChoices := goodIn_hd (goodIn_c zc_wsX12_cheapestChoice_in [(0, 4)] rfl (by decide +kernel)) (goodIn_app (goodIn_c zc_wsX12_cheapestChoice_in [(0, 5), (0, 6)] rfl (by decide +kernel)) (goodIn_sub zB_X12_cheapestChoice_X120 zgw_X120))
set_option maxRecDepth 100000 in
theorem gX12_cheapestChoice_X12_allChoices : GoodIn wsX12_cheapestChoice (wsV RX12 465 RX12 yX12_allChoices wsX12_allChoices) := goodIn_app (goodIn_r _ [1, 2, 3, 4] rfl (by decide +kernel)) ggX12_cheapestChoice_X12_allChoices
set_option maxRecDepth 100000 in
theorem ggX12_cheapestChoice_X12_triesChoice : GoodIn wsX12_cheapestChoice wsX12_triesChoice := goodIn_hd (goodIn_c zc_wsX12_cheapestChoice_in [(0, 10)] rfl (by decide +kernel)) (goodIn_app (goodIn_c zc_wsX12_cheapestChoice_in [(0, 5), (0, 11), (0, 6), (0, 12), (0, 13), (0, 14), (0, 3), (0, 15), (0, 16), (0, 17), (0, 18), (0, 19), (0, 20), (0, 21), (0, 22), (0, 23)] rfl (by decide +kernel)) (goodIn_sub zB_X12_cheapestChoice_X120 zgw_X120))
set_option maxRecDepth 100000 in
theorem gX12_cheapestChoice_X12_triesChoice : GoodIn wsX12_cheapestChoice (wsV RX12 468 RX12 yX12_triesChoice wsX12_triesChoice) := goodIn_app (goodIn_r _ [8, 9, 10, 4] rfl (by decide +kernel)) ggX12_cheapestChoice_X12_triesChoice
set_option maxRecDepth 100000 in
theorem ggX12_cheapestChoice_X12_costTried : GoodIn wsX12_cheapestChoice wsX12_costTried := goodIn_hd (goodIn_c zc_wsX12_cheapestChoice_in [(1, 3)] rfl (by decide +kernel)) (goodIn_app (goodIn_c zc_wsX12_cheapestChoice_in [(1, 4), (0, 16), (1, 5), (0, 17), (1, 6), (1, 7), (1, 8), (0, 3), (1, 9), (1, 10), (1, 11), (1, 12), (1, 13), (1, 14), (1, 15)] rfl (by decide +kernel)) (goodIn_sub zB_X12_cheapestChoice_X120 zgw_X120))
set_option maxRecDepth 100000 in
theorem gX12_cheapestChoice_X12_costTried : GoodIn wsX12_cheapestChoice (wsV RX12 449 RX12 yX12_costTried wsX12_costTried) := goodIn_app (goodIn_r _ [25, 26, 27, 4] rfl (by decide +kernel)) ggX12_cheapestChoice_X12_costTried
set_option maxRecDepth 100000 in
theorem ggX12_cheapestChoice_X12_passes : GoodIn wsX12_cheapestChoice wsX12_passes := goodIn_hd (goodIn_c zc_wsX12_cheapestChoice_in [(1, 19)] rfl (by decide +kernel)) (goodIn_app (goodIn_app (goodIn_c zc_wsX12_cheapestChoice_in [(1, 20), (1, 21), (0, 16), (1, 22), (1, 23), (0, 17), (2, 0), (2, 1), (2, 2), (2, 3), (0, 3), (2, 4), (2, 5), (2, 6), (2, 7), (2, 8), (2, 9), (2, 10), (2, 11), (2, 12), (2, 13), (2, 14), (2, 15), (1, 11)] rfl (by decide +kernel)) (goodIn_app (goodIn_c zc_wsX12_cheapestChoice_in [(1, 10), (2, 16), (2, 17), (2, 18), (2, 19), (2, 20), (2, 21), (2, 22), (2, 23), (3, 0), (3, 1), (3, 2), (3, 3), (3, 4), (3, 5), (3, 6), (3, 7), (3, 8), (3, 9), (3, 10), (3, 11), (3, 12), (3, 13), (3, 14)] rfl (by decide +kernel)) (goodIn_c zc_wsX12_cheapestChoice_in [(3, 15), (3, 16), (3, 17), (3, 18), (3, 19), (3, 20), (3, 21), (3, 22), (3, 23), (4, 0), (4, 1), (4, 2), (4, 3), (4, 4), (4, 5)] rfl (by decide +kernel)))) (goodIn_sub zB_X12_cheapestChoice_X120 zgw_X120))
set_option maxRecDepth 100000 in
theorem gX12_cheapestChoice_X12_passes : GoodIn wsX12_cheapestChoice (wsV RX12 443 RX12 yX12_passes wsX12_passes) := goodIn_app (goodIn_r _ [41, 42, 43, 4] rfl (by decide +kernel)) ggX12_cheapestChoice_X12_passes
noncomputable def zc_wsX12_cheapest : List (List Cond) := [wsX12_cheapest_r1, wsX12_cheapest_r2, wsX12_cheapest_r3, wsX12_cheapest_r4, wsX12_cheapest_r5, wsX12_cheapest_r6, wsX120]
set_option maxRecDepth 20000 in
theorem zc_wsX12_cheapest_in : ∀ l ∈ zc_wsX12_cheapest, ∀ w ∈ l, w ∈ wsX12_cheapest := by
  intro l hl
  unfold zc_wsX12_cheapest at hl
  rcases List.mem_cons.mp hl with e | hl
  · rw [e]
    exact fun w h => List.mem_cons_of_mem _ (List.mem_append_left _ (List.mem_append_left _ h))
  rcases List.mem_cons.mp hl with e | hl
  · rw [e]
    exact fun w h => List.mem_cons_of_mem _ (List.mem_append_left _ (List.mem_append_right _ (List.mem_append_left _ h)))
  rcases List.mem_cons.mp hl with e | hl
  · rw [e]
    exact fun w h => List.mem_cons_of_mem _ (List.mem_append_left _ (List.mem_append_right _ (List.mem_append_right _ (List.mem_append_left _ h))))
  rcases List.mem_cons.mp hl with e | hl
  · rw [e]
    exact fun w h => List.mem_cons_of_mem _ (List.mem_append_left _ (List.mem_append_right _ (List.mem_append_right _ (List.mem_append_right _ (List.mem_append_left _ h)))))
  rcases List.mem_cons.mp hl with e | hl
  · rw [e]
    exact fun w h => List.mem_cons_of_mem _ (List.mem_append_left _ (List.mem_append_right _ (List.mem_append_right _ (List.mem_append_right _ (List.mem_append_right _ (List.mem_append_left _ h))))))
  rcases List.mem_cons.mp hl with e | hl
  · rw [e]
    exact fun w h => List.mem_cons_of_mem _ (List.mem_append_left _ (List.mem_append_right _ (List.mem_append_right _ (List.mem_append_right _ (List.mem_append_right _ (List.mem_append_right _ h))))))
  rcases List.mem_cons.mp hl with e | hl
  · rw [e]
    exact fun w h => List.mem_cons_of_mem _ (List.mem_append_right _ h)
  cases hl
theorem zB_X12_cheapest_X120 : ∀ w ∈ wsX120, w ∈ wsX12_cheapest := fun _ h => List.mem_cons_of_mem _ (List.mem_append_right _ h)
set_option maxRecDepth 100000 in
theorem ggX12_cheapest_X12_canSearch : GoodIn wsX12_cheapest wsX12_canSearch := goodIn_hd (goodIn_c zc_wsX12_cheapest_in [(0, 5)] rfl (by decide +kernel)) (goodIn_app (goodIn_c zc_wsX12_cheapest_in [(0, 6), (0, 7), (0, 8), (0, 9), (0, 10), (0, 11), (0, 12), (0, 4), (0, 13), (0, 14), (0, 15), (0, 16), (0, 17), (0, 18), (0, 19), (0, 20)] rfl (by decide +kernel)) (goodIn_sub zB_X12_cheapest_X120 zgw_X120))
set_option maxRecDepth 100000 in
theorem gX12_cheapest_X12_canSearch : GoodIn wsX12_cheapest (wsV RX12 471 RX12 yX12_canSearch wsX12_canSearch) := goodIn_app (goodIn_r _ [2, 3, 4, 5] rfl (by decide +kernel)) ggX12_cheapest_X12_canSearch
set_option maxRecDepth 100000 in
theorem ggX12_cheapest_X12_isNumber : GoodIn wsX12_cheapest wsX12_isNumber := goodIn_hd (goodIn_c zc_wsX12_cheapest_in [(1, 0)] rfl (by decide +kernel)) (goodIn_app (goodIn_c zc_wsX12_cheapest_in [(0, 7), (1, 1), (1, 2), (0, 4), (1, 3)] rfl (by decide +kernel)) (goodIn_sub zB_X12_cheapest_X120 zgw_X120))
set_option maxRecDepth 100000 in
theorem gX12_cheapest_X12_isNumber : GoodIn wsX12_cheapest (wsV RX12 373 RX12 yX12_isNumber wsX12_isNumber) := goodIn_app (goodIn_r _ [22, 23, 24, 5] rfl (by decide +kernel)) ggX12_cheapest_X12_isNumber
set_option maxRecDepth 100000 in
theorem ggX12_cheapest_X12_cheapestChoice : GoodIn wsX12_cheapest wsX12_cheapestChoice := goodIn_hd (goodIn_c zc_wsX12_cheapest_in [(1, 7)] rfl (by decide +kernel)) (goodIn_app (goodIn_app (goodIn_c zc_wsX12_cheapest_in [(1, 8), (1, 9), (1, 10), (0, 4), (1, 11), (0, 9), (1, 12), (1, 13), (1, 14), (1, 15), (1, 16), (0, 15), (1, 17), (1, 18), (1, 19), (1, 20), (0, 7), (0, 0), (1, 21), (1, 22), (1, 23), (2, 0), (2, 1), (0, 14)] rfl (by decide +kernel)) (goodIn_app (goodIn_c zc_wsX12_cheapest_in [(2, 2), (2, 3), (2, 4), (2, 5), (2, 6), (2, 7), (2, 8), (2, 9), (2, 10), (2, 11), (2, 12), (2, 13), (2, 14), (2, 15), (2, 16), (2, 17), (2, 18), (2, 19), (2, 20), (2, 21), (2, 22), (2, 23), (3, 0), (3, 1)] rfl (by decide +kernel)) (goodIn_app (goodIn_c zc_wsX12_cheapest_in [(3, 2), (3, 3), (3, 4), (3, 5), (3, 6), (3, 7), (0, 6), (3, 8), (3, 9), (3, 10), (3, 11), (3, 12), (3, 13), (3, 14), (3, 15), (3, 16), (3, 17), (3, 18), (3, 19), (3, 20), (3, 21), (3, 22), (3, 23), (4, 0)] rfl (by decide +kernel)) (goodIn_app (goodIn_c zc_wsX12_cheapest_in [(4, 1), (4, 2), (4, 3), (4, 4), (4, 5), (4, 6), (4, 7), (4, 8), (4, 9), (4, 10), (4, 11), (4, 12), (4, 13), (4, 14), (4, 15), (4, 16), (4, 17), (4, 18), (4, 19), (4, 20), (4, 21), (4, 22), (4, 23), (5, 0)] rfl (by decide +kernel)) (goodIn_c zc_wsX12_cheapest_in [(5, 1), (5, 2), (5, 3), (5, 4), (5, 5), (5, 6)] rfl (by decide +kernel)))))) (goodIn_sub zB_X12_cheapest_X120 zgw_X120))
set_option maxRecDepth 100000 in
theorem gX12_cheapest_X12_cheapestChoice : GoodIn wsX12_cheapest (wsV RX12 474 RX12 yX12_cheapestChoice wsX12_cheapestChoice) := goodIn_app (goodIn_r _ [29, 30, 31, 5] rfl (by decide +kernel)) ggX12_cheapest_X12_cheapestChoice
set_option maxRecDepth 100000 in
theorem ggX12_cheapest_X12_triesChoice : GoodIn wsX12_cheapest wsX12_triesChoice := goodIn_hd (goodIn_c zc_wsX12_cheapest_in [(1, 16)] rfl (by decide +kernel)) (goodIn_app (goodIn_c zc_wsX12_cheapest_in [(0, 9), (0, 15), (1, 12), (1, 17), (1, 18), (1, 19), (0, 4), (1, 20), (0, 7), (0, 0), (1, 21), (1, 22), (1, 23), (2, 0), (2, 1), (0, 14)] rfl (by decide +kernel)) (goodIn_sub zB_X12_cheapest_X120 zgw_X120))
set_option maxRecDepth 100000 in
theorem gX12_cheapest_X12_triesChoice : GoodIn wsX12_cheapest (wsV RX12 468 RX12 yX12_triesChoice wsX12_triesChoice) := goodIn_app (goodIn_r _ [38, 39, 40, 5] rfl (by decide +kernel)) ggX12_cheapest_X12_triesChoice
set_option maxRecDepth 100000 in
theorem ggX12_cheapest_X12_costTried : GoodIn wsX12_cheapest wsX12_costTried := goodIn_hd (goodIn_c zc_wsX12_cheapest_in [(2, 5)] rfl (by decide +kernel)) (goodIn_app (goodIn_c zc_wsX12_cheapest_in [(2, 6), (0, 7), (2, 7), (0, 0), (2, 8), (2, 9), (2, 10), (0, 4), (2, 11), (2, 12), (2, 13), (2, 14), (2, 15), (2, 16), (2, 17)] rfl (by decide +kernel)) (goodIn_sub zB_X12_cheapest_X120 zgw_X120))
set_option maxRecDepth 100000 in
theorem gX12_cheapest_X12_costTried : GoodIn wsX12_cheapest (wsV RX12 449 RX12 yX12_costTried wsX12_costTried) := goodIn_app (goodIn_r _ [51, 52, 53, 5] rfl (by decide +kernel)) ggX12_cheapest_X12_costTried
noncomputable def zc_wsX12_passing : List (List Cond) := [wsX12_passing_r1, wsX12_passing_r2, wsX12_passing_r3, wsX12_passing_r4, wsX12_passing_r5, wsX120]
set_option maxRecDepth 20000 in
theorem zc_wsX12_passing_in : ∀ l ∈ zc_wsX12_passing, ∀ w ∈ l, w ∈ wsX12_passing := by
  intro l hl
  unfold zc_wsX12_passing at hl
  rcases List.mem_cons.mp hl with e | hl
  · rw [e]
    exact fun w h => List.mem_cons_of_mem _ (List.mem_append_left _ (List.mem_append_left _ h))
  rcases List.mem_cons.mp hl with e | hl
  · rw [e]
    exact fun w h => List.mem_cons_of_mem _ (List.mem_append_left _ (List.mem_append_right _ (List.mem_append_left _ h)))
  rcases List.mem_cons.mp hl with e | hl
  · rw [e]
    exact fun w h => List.mem_cons_of_mem _ (List.mem_append_left _ (List.mem_append_right _ (List.mem_append_right _ (List.mem_append_left _ h))))
  rcases List.mem_cons.mp hl with e | hl
  · rw [e]
    exact fun w h => List.mem_cons_of_mem _ (List.mem_append_left _ (List.mem_append_right _ (List.mem_append_right _ (List.mem_append_right _ (List.mem_append_left _ h)))))
  rcases List.mem_cons.mp hl with e | hl
  · rw [e]
    exact fun w h => List.mem_cons_of_mem _ (List.mem_append_left _ (List.mem_append_right _ (List.mem_append_right _ (List.mem_append_right _ (List.mem_append_right _ h)))))
  rcases List.mem_cons.mp hl with e | hl
  · rw [e]
    exact fun w h => List.mem_cons_of_mem _ (List.mem_append_right _ h)
  cases hl
theorem zB_X12_passing_X120 : ∀ w ∈ wsX120, w ∈ wsX12_passing := fun _ h => List.mem_cons_of_mem _ (List.mem_append_right _ h)
set_option maxRecDepth 100000 in
theorem ggX12_passing_X12_laysFree : GoodIn wsX12_passing wsX12_laysFree := goodIn_hd (goodIn_c zc_wsX12_passing_in [(0, 8)] rfl (by decide +kernel)) (goodIn_app (goodIn_c zc_wsX12_passing_in [(0, 1), (0, 0), (0, 9), (0, 10), (0, 11), (0, 12), (0, 13), (0, 7), (0, 14), (0, 15)] rfl (by decide +kernel)) (goodIn_sub zB_X12_passing_X120 zgw_X120))
set_option maxRecDepth 100000 in
theorem gX12_passing_X12_laysFree : GoodIn wsX12_passing (wsV RX12 358 RX12 yX12_laysFree wsX12_laysFree) := goodIn_app (goodIn_r _ [5, 6, 7, 8] rfl (by decide +kernel)) ggX12_passing_X12_laysFree
set_option maxRecDepth 100000 in
theorem ggX12_passing_X12_allChoices : GoodIn wsX12_passing wsX12_allChoices := goodIn_hd (goodIn_c zc_wsX12_passing_in [(0, 19)] rfl (by decide +kernel)) (goodIn_app (goodIn_c zc_wsX12_passing_in [(0, 1), (0, 20)] rfl (by decide +kernel)) (goodIn_sub zB_X12_passing_X120 zgw_X120))
set_option maxRecDepth 100000 in
theorem gX12_passing_X12_allChoices : GoodIn wsX12_passing (wsV RX12 465 RX12 yX12_allChoices wsX12_allChoices) := goodIn_app (goodIn_r _ [17, 18, 19, 8] rfl (by decide +kernel)) ggX12_passing_X12_allChoices
set_option maxRecDepth 100000 in
theorem ggX12_passing_X12_triesChoice : GoodIn wsX12_passing wsX12_triesChoice := goodIn_hd (goodIn_c zc_wsX12_passing_in [(1, 0)] rfl (by decide +kernel)) (goodIn_app (goodIn_c zc_wsX12_passing_in [(0, 1), (0, 10), (0, 20), (1, 1), (1, 2), (1, 3), (0, 7), (1, 4), (0, 0), (1, 5), (1, 6), (1, 7), (1, 8), (1, 9), (1, 10), (0, 9)] rfl (by decide +kernel)) (goodIn_sub zB_X12_passing_X120 zgw_X120))
set_option maxRecDepth 100000 in
theorem gX12_passing_X12_triesChoice : GoodIn wsX12_passing (wsV RX12 468 RX12 yX12_triesChoice wsX12_triesChoice) := goodIn_app (goodIn_r _ [22, 23, 24, 8] rfl (by decide +kernel)) ggX12_passing_X12_triesChoice
set_option maxRecDepth 100000 in
theorem ggX12_passing_X12_passes : GoodIn wsX12_passing wsX12_passes := goodIn_hd (goodIn_c zc_wsX12_passing_in [(1, 14)] rfl (by decide +kernel)) (goodIn_app (goodIn_app (goodIn_c zc_wsX12_passing_in [(1, 15), (1, 16), (0, 0), (1, 17), (1, 18), (1, 5), (1, 19), (1, 20), (1, 21), (1, 22), (0, 7), (1, 23), (2, 0), (0, 3), (2, 1), (2, 2), (2, 3), (2, 4), (2, 5), (2, 6), (2, 7), (2, 8), (2, 9), (2, 10)] rfl (by decide +kernel)) (goodIn_app (goodIn_c zc_wsX12_passing_in [(2, 11), (2, 12), (2, 13), (2, 14), (2, 15), (2, 16), (2, 17), (2, 18), (2, 19), (2, 20), (2, 21), (2, 22), (2, 23), (3, 0), (3, 1), (3, 2), (3, 3), (3, 4), (3, 5), (3, 6), (3, 7), (3, 8), (3, 9), (3, 10)] rfl (by decide +kernel)) (goodIn_c zc_wsX12_passing_in [(3, 11), (3, 12), (3, 13), (3, 14), (3, 15), (3, 16), (3, 17), (3, 18), (3, 19), (3, 20), (3, 21), (3, 22), (3, 23), (4, 0), (4, 1)] rfl (by decide +kernel)))) (goodIn_sub zB_X12_passing_X120 zgw_X120))
set_option maxRecDepth 100000 in
theorem gX12_passing_X12_passes : GoodIn wsX12_passing (wsV RX12 443 RX12 yX12_passes wsX12_passes) := goodIn_app (goodIn_r _ [36, 37, 38, 8] rfl (by decide +kernel)) ggX12_passing_X12_passes
theorem zB_X12_keepsTried_X120 : ∀ w ∈ wsX120, w ∈ wsX12_keepsTried := fun _ h => List.mem_cons_of_mem _ (List.mem_append_right _ h)
set_option maxRecDepth 100000 in
theorem ggX12_keepsTried_X12_costTried : GoodIn wsX12_keepsTried wsX12_costTried := goodIn_hd (goodIn_r _ [9] rfl (by decide +kernel)) (goodIn_app (goodIn_r _ [10, 1, 11, 3, 12, 13, 14, 8, 15, 16, 17, 18, 19, 20, 21] rfl (by decide +kernel)) (goodIn_sub zB_X12_keepsTried_X120 zgw_X120))
set_option maxRecDepth 100000 in
theorem gX12_keepsTried_X12_costTried : GoodIn wsX12_keepsTried (wsV RX12 449 RX12 yX12_costTried wsX12_costTried) := goodIn_app (goodIn_r _ [5, 6, 7, 8] rfl (by decide +kernel)) ggX12_keepsTried_X12_costTried
noncomputable def zc_wsX12_isBetter : List (List Cond) := [wsX12_isBetter_r1, wsX12_isBetter_r2, wsX12_isBetter_r3, wsX12_isBetter_r4, wsX120]
set_option maxRecDepth 20000 in
theorem zc_wsX12_isBetter_in : ∀ l ∈ zc_wsX12_isBetter, ∀ w ∈ l, w ∈ wsX12_isBetter := by
  intro l hl
  unfold zc_wsX12_isBetter at hl
  rcases List.mem_cons.mp hl with e | hl
  · rw [e]
    exact fun w h => List.mem_cons_of_mem _ (List.mem_append_left _ (List.mem_append_left _ h))
  rcases List.mem_cons.mp hl with e | hl
  · rw [e]
    exact fun w h => List.mem_cons_of_mem _ (List.mem_append_left _ (List.mem_append_right _ (List.mem_append_left _ h)))
  rcases List.mem_cons.mp hl with e | hl
  · rw [e]
    exact fun w h => List.mem_cons_of_mem _ (List.mem_append_left _ (List.mem_append_right _ (List.mem_append_right _ (List.mem_append_left _ h))))
  rcases List.mem_cons.mp hl with e | hl
  · rw [e]
    exact fun w h => List.mem_cons_of_mem _ (List.mem_append_left _ (List.mem_append_right _ (List.mem_append_right _ (List.mem_append_right _ h))))
  rcases List.mem_cons.mp hl with e | hl
  · rw [e]
    exact fun w h => List.mem_cons_of_mem _ (List.mem_append_right _ h)
  cases hl
theorem zB_X12_isBetter_X120 : ∀ w ∈ wsX120, w ∈ wsX12_isBetter := fun _ h => List.mem_cons_of_mem _ (List.mem_append_right _ h)
set_option maxRecDepth 100000 in
theorem ggX12_isBetter_X12_triesGroup : GoodIn wsX12_isBetter wsX12_triesGroup := goodIn_hd (goodIn_c zc_wsX12_isBetter_in [(0, 12)] rfl (by decide +kernel)) (goodIn_app (goodIn_c zc_wsX12_isBetter_in [(0, 0), (0, 1), (0, 13)] rfl (by decide +kernel)) (goodIn_sub zB_X12_isBetter_X120 zgw_X120))
set_option maxRecDepth 100000 in
theorem gX12_isBetter_X12_triesGroup : GoodIn wsX12_isBetter (wsV RX12 462 RX12 yX12_triesGroup wsX12_triesGroup) := goodIn_app (goodIn_r _ [9, 10, 11, 12] rfl (by decide +kernel)) ggX12_isBetter_X12_triesGroup
set_option maxRecDepth 100000 in
theorem ggX12_isBetter_X12_passes : GoodIn wsX12_isBetter wsX12_passes := goodIn_hd (goodIn_c zc_wsX12_isBetter_in [(0, 17)] rfl (by decide +kernel)) (goodIn_app (goodIn_app (goodIn_c zc_wsX12_isBetter_in [(0, 18), (0, 19), (0, 0), (0, 20), (0, 21), (0, 1), (0, 22), (0, 23), (1, 0), (1, 1), (0, 11), (1, 2), (1, 3), (1, 4), (1, 5), (1, 6), (1, 7), (1, 8), (1, 9), (1, 10), (1, 11), (1, 12), (1, 13), (1, 14)] rfl (by decide +kernel)) (goodIn_app (goodIn_c zc_wsX12_isBetter_in [(1, 15), (1, 16), (1, 17), (1, 18), (1, 19), (1, 20), (1, 21), (1, 22), (1, 23), (2, 0), (2, 1), (2, 2), (2, 3), (2, 4), (2, 5), (2, 6), (2, 7), (2, 8), (2, 9), (2, 10), (2, 11), (2, 12), (2, 13), (2, 14)] rfl (by decide +kernel)) (goodIn_c zc_wsX12_isBetter_in [(2, 15), (2, 16), (2, 17), (2, 18), (2, 19), (2, 20), (2, 21), (2, 22), (2, 23), (3, 0), (3, 1), (3, 2), (3, 3), (3, 4), (3, 5)] rfl (by decide +kernel)))) (goodIn_sub zB_X12_isBetter_X120 zgw_X120))
set_option maxRecDepth 100000 in
theorem gX12_isBetter_X12_passes : GoodIn wsX12_isBetter (wsV RX12 443 RX12 yX12_passes wsX12_passes) := goodIn_app (goodIn_r _ [15, 16, 17, 12] rfl (by decide +kernel)) ggX12_isBetter_X12_passes
set_option maxRecDepth 100000 in
theorem ggX12_isBetter_X12_costTried : GoodIn wsX12_isBetter wsX12_costTried := goodIn_hd (goodIn_c zc_wsX12_isBetter_in [(3, 9)] rfl (by decide +kernel)) (goodIn_app (goodIn_c zc_wsX12_isBetter_in [(3, 10), (0, 0), (3, 11), (0, 1), (3, 12), (3, 13), (3, 14), (0, 11), (3, 15), (1, 15), (1, 14), (3, 16), (3, 17), (3, 18), (3, 19)] rfl (by decide +kernel)) (goodIn_sub zB_X12_isBetter_X120 zgw_X120))
set_option maxRecDepth 100000 in
theorem gX12_isBetter_X12_costTried : GoodIn wsX12_isBetter (wsV RX12 449 RX12 yX12_costTried wsX12_costTried) := goodIn_app (goodIn_r _ [79, 80, 81, 12] rfl (by decide +kernel)) ggX12_isBetter_X12_costTried
set_option maxRecDepth 100000 in
theorem ggX12_isBetter_X12_keepsTried : GoodIn wsX12_isBetter wsX12_keepsTried := goodIn_hd (goodIn_c zc_wsX12_isBetter_in [(3, 23)] rfl (by decide +kernel)) (goodIn_app (goodIn_c zc_wsX12_isBetter_in [(0, 0), (0, 2), (0, 1), (0, 6), (3, 6), (3, 7), (3, 8), (0, 11), (3, 9), (3, 10), (3, 11), (3, 12), (3, 13), (3, 14), (3, 15), (1, 15), (1, 14), (3, 16), (3, 17), (3, 18), (3, 19)] rfl (by decide +kernel)) (goodIn_sub zB_X12_isBetter_X120 zgw_X120))
set_option maxRecDepth 100000 in
theorem gX12_isBetter_X12_keepsTried : GoodIn wsX12_isBetter (wsV RX12 477 RX12 yX12_keepsTried wsX12_keepsTried) := goodIn_app (goodIn_r _ [93, 94, 95, 12] rfl (by decide +kernel)) ggX12_isBetter_X12_keepsTried
noncomputable def zc_wsX12_halvesBy : List (List Cond) := [wsX12_halvesBy_r1, wsX12_halvesBy_r2, wsX12_halvesBy_r3, wsX12_halvesBy_r4, wsX12_halvesBy_r5, wsX120]
set_option maxRecDepth 20000 in
theorem zc_wsX12_halvesBy_in : ∀ l ∈ zc_wsX12_halvesBy, ∀ w ∈ l, w ∈ wsX12_halvesBy := by
  intro l hl
  unfold zc_wsX12_halvesBy at hl
  rcases List.mem_cons.mp hl with e | hl
  · rw [e]
    exact fun w h => List.mem_cons_of_mem _ (List.mem_append_left _ (List.mem_append_left _ h))
  rcases List.mem_cons.mp hl with e | hl
  · rw [e]
    exact fun w h => List.mem_cons_of_mem _ (List.mem_append_left _ (List.mem_append_right _ (List.mem_append_left _ h)))
  rcases List.mem_cons.mp hl with e | hl
  · rw [e]
    exact fun w h => List.mem_cons_of_mem _ (List.mem_append_left _ (List.mem_append_right _ (List.mem_append_right _ (List.mem_append_left _ h))))
  rcases List.mem_cons.mp hl with e | hl
  · rw [e]
    exact fun w h => List.mem_cons_of_mem _ (List.mem_append_left _ (List.mem_append_right _ (List.mem_append_right _ (List.mem_append_right _ (List.mem_append_left _ h)))))
  rcases List.mem_cons.mp hl with e | hl
  · rw [e]
    exact fun w h => List.mem_cons_of_mem _ (List.mem_append_left _ (List.mem_append_right _ (List.mem_append_right _ (List.mem_append_right _ (List.mem_append_right _ h)))))
  rcases List.mem_cons.mp hl with e | hl
  · rw [e]
    exact fun w h => List.mem_cons_of_mem _ (List.mem_append_right _ h)
  cases hl
theorem zB_X12_halvesBy_X120 : ∀ w ∈ wsX120, w ∈ wsX12_halvesBy := fun _ h => List.mem_cons_of_mem _ (List.mem_append_right _ h)
set_option maxRecDepth 100000 in
theorem ggX12_halvesBy_X12_isBetter : GoodIn wsX12_halvesBy wsX12_isBetter := goodIn_hd (goodIn_c zc_wsX12_halvesBy_in [(0, 9)] rfl (by decide +kernel)) (goodIn_app (goodIn_app (goodIn_c zc_wsX12_halvesBy_in [(0, 10), (0, 11), (0, 12), (0, 13), (0, 2), (0, 14), (0, 15), (0, 1), (0, 16), (0, 17), (0, 18), (0, 8), (0, 19), (0, 20), (0, 21), (0, 22), (0, 23), (1, 0), (1, 1), (1, 2), (1, 3), (1, 4), (1, 5), (1, 6)] rfl (by decide +kernel)) (goodIn_app (goodIn_c zc_wsX12_halvesBy_in [(1, 7), (1, 8), (1, 9), (1, 10), (1, 11), (1, 12), (1, 13), (1, 14), (1, 15), (1, 16), (1, 17), (1, 18), (1, 19), (1, 20), (1, 21), (1, 22), (1, 23), (2, 0), (2, 1), (2, 2), (2, 3), (2, 4), (2, 5), (2, 6)] rfl (by decide +kernel)) (goodIn_app (goodIn_c zc_wsX12_halvesBy_in [(2, 7), (2, 8), (2, 9), (2, 10), (2, 11), (2, 12), (2, 13), (2, 14), (2, 15), (2, 16), (2, 17), (2, 18), (2, 19), (2, 20), (2, 21), (2, 22), (2, 23), (3, 0), (3, 1), (3, 2), (3, 3), (3, 4), (3, 5), (3, 6)] rfl (by decide +kernel)) (goodIn_c zc_wsX12_halvesBy_in [(3, 7), (3, 8), (3, 9), (3, 10), (3, 11), (3, 12), (3, 13), (3, 14), (3, 15), (3, 16), (3, 17), (3, 18), (3, 19), (3, 20), (3, 21), (3, 22), (3, 23), (4, 0), (4, 1), (4, 2), (4, 3), (4, 4), (4, 5), (4, 6)] rfl (by decide +kernel))))) (goodIn_sub zB_X12_halvesBy_X120 zgw_X120))
set_option maxRecDepth 100000 in
theorem gX12_halvesBy_X12_isBetter : GoodIn wsX12_halvesBy (wsV RX12 480 RX12 yX12_isBetter wsX12_isBetter) := goodIn_app (goodIn_r _ [6, 7, 8, 9] rfl (by decide +kernel)) ggX12_halvesBy_X12_isBetter
noncomputable def zc_wsX12_halve : List (List Cond) := [wsX12_halve_r1, wsX12_halve_r2, wsX12_halve_r3, wsX12_halve_r4, wsX12_halve_r5, wsX12_halve_r6, wsX120]
set_option maxRecDepth 20000 in
theorem zc_wsX12_halve_in : ∀ l ∈ zc_wsX12_halve, ∀ w ∈ l, w ∈ wsX12_halve := by
  intro l hl
  unfold zc_wsX12_halve at hl
  rcases List.mem_cons.mp hl with e | hl
  · rw [e]
    exact fun w h => List.mem_cons_of_mem _ (List.mem_append_left _ (List.mem_append_left _ h))
  rcases List.mem_cons.mp hl with e | hl
  · rw [e]
    exact fun w h => List.mem_cons_of_mem _ (List.mem_append_left _ (List.mem_append_right _ (List.mem_append_left _ h)))
  rcases List.mem_cons.mp hl with e | hl
  · rw [e]
    exact fun w h => List.mem_cons_of_mem _ (List.mem_append_left _ (List.mem_append_right _ (List.mem_append_right _ (List.mem_append_left _ h))))
  rcases List.mem_cons.mp hl with e | hl
  · rw [e]
    exact fun w h => List.mem_cons_of_mem _ (List.mem_append_left _ (List.mem_append_right _ (List.mem_append_right _ (List.mem_append_right _ (List.mem_append_left _ h)))))
  rcases List.mem_cons.mp hl with e | hl
  · rw [e]
    exact fun w h => List.mem_cons_of_mem _ (List.mem_append_left _ (List.mem_append_right _ (List.mem_append_right _ (List.mem_append_right _ (List.mem_append_right _ (List.mem_append_left _ h))))))
  rcases List.mem_cons.mp hl with e | hl
  · rw [e]
    exact fun w h => List.mem_cons_of_mem _ (List.mem_append_left _ (List.mem_append_right _ (List.mem_append_right _ (List.mem_append_right _ (List.mem_append_right _ (List.mem_append_right _ h))))))
  rcases List.mem_cons.mp hl with e | hl
  · rw [e]
    exact fun w h => List.mem_cons_of_mem _ (List.mem_append_right _ h)
  cases hl
theorem zB_X12_halve_X120 : ∀ w ∈ wsX120, w ∈ wsX12_halve := fun _ h => List.mem_cons_of_mem _ (List.mem_append_right _ h)
set_option maxRecDepth 100000 in
theorem ggX12_halve_X12_laysFree : GoodIn wsX12_halve wsX12_laysFree := goodIn_hd (goodIn_c zc_wsX12_halve_in [(0, 10)] rfl (by decide +kernel)) (goodIn_app (goodIn_c zc_wsX12_halve_in [(0, 1), (0, 11), (0, 12), (0, 2), (0, 13), (0, 14), (0, 15), (0, 9), (0, 16), (0, 17)] rfl (by decide +kernel)) (goodIn_sub zB_X12_halve_X120 zgw_X120))
set_option maxRecDepth 100000 in
theorem gX12_halve_X12_laysFree : GoodIn wsX12_halve (wsV RX12 358 RX12 yX12_laysFree wsX12_laysFree) := goodIn_app (goodIn_r _ [7, 8, 9, 10] rfl (by decide +kernel)) ggX12_halve_X12_laysFree
set_option maxRecDepth 100000 in
theorem ggX12_halve_X12_isThere : GoodIn wsX12_halve wsX12_isThere := goodIn_hd (goodIn_c zc_wsX12_halve_in [(0, 21)] rfl (by decide +kernel)) (goodIn_app (goodIn_c zc_wsX12_halve_in [(0, 22), (0, 11)] rfl (by decide +kernel)) (goodIn_sub zB_X12_halve_X120 zgw_X120))
set_option maxRecDepth 100000 in
theorem gX12_halve_X12_isThere : GoodIn wsX12_halve (wsV RX12 446 RX12 yX12_isThere wsX12_isThere) := goodIn_app (goodIn_r _ [19, 20, 21, 10] rfl (by decide +kernel)) ggX12_halve_X12_isThere
set_option maxRecDepth 100000 in
theorem ggX12_halve_X12_finest : GoodIn wsX12_halve wsX12_finest := goodIn_hd (goodIn_c zc_wsX12_halve_in [(1, 2)] rfl (by decide +kernel)) (goodIn_app (goodIn_c zc_wsX12_halve_in [(0, 5), (1, 3)] rfl (by decide +kernel)) (goodIn_sub zB_X12_halve_X120 zgw_X120))
set_option maxRecDepth 100000 in
theorem gX12_halve_X12_finest : GoodIn wsX12_halve (wsV RX12 459 RX12 yX12_finest wsX12_finest) := goodIn_app (goodIn_r _ [24, 25, 26, 10] rfl (by decide +kernel)) ggX12_halve_X12_finest
set_option maxRecDepth 100000 in
theorem ggX12_halve_X12_triesHand : GoodIn wsX12_halve wsX12_triesHand := goodIn_hd (goodIn_c zc_wsX12_halve_in [(1, 7)] rfl (by decide +kernel)) (goodIn_app (goodIn_c zc_wsX12_halve_in [(0, 11), (1, 8), (1, 9)] rfl (by decide +kernel)) (goodIn_sub zB_X12_halve_X120 zgw_X120))
set_option maxRecDepth 100000 in
theorem gX12_halve_X12_triesHand : GoodIn wsX12_halve (wsV RX12 440 RX12 yX12_triesHand wsX12_triesHand) := goodIn_app (goodIn_r _ [29, 30, 31, 10] rfl (by decide +kernel)) ggX12_halve_X12_triesHand
set_option maxRecDepth 100000 in
theorem ggX12_halve_X12_triesGroup : GoodIn wsX12_halve wsX12_triesGroup := goodIn_hd (goodIn_c zc_wsX12_halve_in [(1, 13)] rfl (by decide +kernel)) (goodIn_app (goodIn_c zc_wsX12_halve_in [(0, 11), (1, 8), (0, 12)] rfl (by decide +kernel)) (goodIn_sub zB_X12_halve_X120 zgw_X120))
set_option maxRecDepth 100000 in
theorem gX12_halve_X12_triesGroup : GoodIn wsX12_halve (wsV RX12 462 RX12 yX12_triesGroup wsX12_triesGroup) := goodIn_app (goodIn_r _ [35, 36, 37, 10] rfl (by decide +kernel)) ggX12_halve_X12_triesGroup
set_option maxRecDepth 100000 in
theorem ggX12_halve_X12_passes : GoodIn wsX12_halve wsX12_passes := goodIn_hd (goodIn_c zc_wsX12_halve_in [(1, 17)] rfl (by decide +kernel)) (goodIn_app (goodIn_app (goodIn_c zc_wsX12_halve_in [(1, 18), (1, 19), (0, 11), (1, 20), (1, 21), (1, 8), (1, 22), (1, 23), (2, 0), (2, 1), (0, 9), (2, 2), (2, 3), (0, 0), (2, 4), (2, 5), (2, 6), (2, 7), (2, 8), (2, 9), (2, 10), (2, 11), (2, 12), (2, 13)] rfl (by decide +kernel)) (goodIn_app (goodIn_c zc_wsX12_halve_in [(2, 14), (2, 15), (2, 16), (2, 17), (2, 18), (2, 19), (2, 20), (2, 21), (2, 22), (2, 23), (3, 0), (3, 1), (3, 2), (3, 3), (3, 4), (3, 5), (3, 6), (3, 7), (3, 8), (3, 9), (3, 10), (3, 11), (3, 12), (3, 13)] rfl (by decide +kernel)) (goodIn_c zc_wsX12_halve_in [(3, 14), (3, 15), (3, 16), (1, 3), (3, 17), (3, 18), (3, 19), (3, 20), (3, 21), (3, 22), (3, 23), (4, 0), (4, 1), (4, 2), (4, 3)] rfl (by decide +kernel)))) (goodIn_sub zB_X12_halve_X120 zgw_X120))
set_option maxRecDepth 100000 in
theorem gX12_halve_X12_passes : GoodIn wsX12_halve (wsV RX12 443 RX12 yX12_passes wsX12_passes) := goodIn_app (goodIn_r _ [39, 40, 41, 10] rfl (by decide +kernel)) ggX12_halve_X12_passes
set_option maxRecDepth 100000 in
theorem ggX12_halve_X12_keepsTried : GoodIn wsX12_halve wsX12_keepsTried := goodIn_hd (goodIn_c zc_wsX12_halve_in [(4, 7)] rfl (by decide +kernel)) (goodIn_app (goodIn_c zc_wsX12_halve_in [(0, 11), (4, 8), (1, 8), (4, 9), (4, 10), (4, 11), (4, 12), (0, 9), (4, 13), (4, 14), (4, 15), (4, 16), (4, 17), (4, 18), (4, 19), (2, 14), (2, 13), (4, 20), (4, 21), (4, 22), (4, 23)] rfl (by decide +kernel)) (goodIn_sub zB_X12_halve_X120 zgw_X120))
set_option maxRecDepth 100000 in
theorem gX12_halve_X12_keepsTried : GoodIn wsX12_halve (wsV RX12 477 RX12 yX12_keepsTried wsX12_keepsTried) := goodIn_app (goodIn_r _ [101, 102, 103, 10] rfl (by decide +kernel)) ggX12_halve_X12_keepsTried
set_option maxRecDepth 100000 in
theorem ggX12_halve_X12_halvesBy : GoodIn wsX12_halve wsX12_halvesBy := goodIn_hd (goodIn_c zc_wsX12_halve_in [(5, 3)] rfl (by decide +kernel)) (goodIn_app (goodIn_app (goodIn_c zc_wsX12_halve_in [(0, 1), (0, 3), (5, 4), (5, 5), (5, 6), (5, 7), (5, 8), (5, 9), (0, 9), (5, 10), (0, 11), (1, 8), (4, 8), (0, 2), (0, 4), (4, 9), (1, 10), (1, 11), (1, 12), (1, 13), (0, 12), (1, 14), (1, 15), (1, 16)] rfl (by decide +kernel)) (goodIn_app (goodIn_c zc_wsX12_halve_in [(1, 17), (1, 18), (1, 19), (1, 20), (1, 21), (1, 22), (1, 23), (2, 0), (2, 1), (2, 2), (2, 3), (0, 0), (2, 4), (2, 5), (2, 6), (2, 7), (2, 8), (2, 9), (2, 10), (2, 11), (2, 12), (2, 13), (2, 14), (2, 15)] rfl (by decide +kernel)) (goodIn_app (goodIn_c zc_wsX12_halve_in [(2, 16), (2, 17), (2, 18), (2, 19), (2, 20), (2, 21), (2, 22), (2, 23), (3, 0), (3, 1), (3, 2), (3, 3), (3, 4), (3, 5), (3, 6), (3, 7), (3, 8), (3, 9), (3, 10), (3, 11), (3, 12), (3, 13), (3, 14), (3, 15)] rfl (by decide +kernel)) (goodIn_app (goodIn_c zc_wsX12_halve_in [(3, 16), (1, 3), (3, 17), (3, 18), (3, 19), (3, 20), (3, 21), (3, 22), (3, 23), (4, 0), (4, 1), (4, 2), (4, 3), (4, 10), (4, 11), (4, 12), (4, 13), (4, 14), (4, 15), (4, 16), (4, 17), (4, 18), (4, 19), (4, 20)] rfl (by decide +kernel)) (goodIn_c zc_wsX12_halve_in [(4, 21), (4, 22), (4, 23), (4, 4), (4, 5), (4, 6), (4, 7)] rfl (by decide +kernel)))))) (goodIn_sub zB_X12_halve_X120 zgw_X120))
set_option maxRecDepth 100000 in
theorem gX12_halve_X12_halvesBy : GoodIn wsX12_halve (wsV RX12 484 RX12 yX12_halvesBy wsX12_halvesBy) := goodIn_app (goodIn_r _ [121, 122, 123, 10] rfl (by decide +kernel)) ggX12_halve_X12_halvesBy
noncomputable def zc_wsX12_halves : List (List Cond) := [wsX12_halves_r1, wsX12_halves_r2, wsX12_halves_r3, wsX12_halves_r4, wsX12_halves_r5, wsX12_halves_r6, wsX120]
set_option maxRecDepth 20000 in
theorem zc_wsX12_halves_in : ∀ l ∈ zc_wsX12_halves, ∀ w ∈ l, w ∈ wsX12_halves := by
  intro l hl
  unfold zc_wsX12_halves at hl
  rcases List.mem_cons.mp hl with e | hl
  · rw [e]
    exact fun w h => List.mem_cons_of_mem _ (List.mem_append_left _ (List.mem_append_left _ h))
  rcases List.mem_cons.mp hl with e | hl
  · rw [e]
    exact fun w h => List.mem_cons_of_mem _ (List.mem_append_left _ (List.mem_append_right _ (List.mem_append_left _ h)))
  rcases List.mem_cons.mp hl with e | hl
  · rw [e]
    exact fun w h => List.mem_cons_of_mem _ (List.mem_append_left _ (List.mem_append_right _ (List.mem_append_right _ (List.mem_append_left _ h))))
  rcases List.mem_cons.mp hl with e | hl
  · rw [e]
    exact fun w h => List.mem_cons_of_mem _ (List.mem_append_left _ (List.mem_append_right _ (List.mem_append_right _ (List.mem_append_right _ (List.mem_append_left _ h)))))
  rcases List.mem_cons.mp hl with e | hl
  · rw [e]
    exact fun w h => List.mem_cons_of_mem _ (List.mem_append_left _ (List.mem_append_right _ (List.mem_append_right _ (List.mem_append_right _ (List.mem_append_right _ (List.mem_append_left _ h))))))
  rcases List.mem_cons.mp hl with e | hl
  · rw [e]
    exact fun w h => List.mem_cons_of_mem _ (List.mem_append_left _ (List.mem_append_right _ (List.mem_append_right _ (List.mem_append_right _ (List.mem_append_right _ (List.mem_append_right _ h))))))
  rcases List.mem_cons.mp hl with e | hl
  · rw [e]
    exact fun w h => List.mem_cons_of_mem _ (List.mem_append_right _ h)
  cases hl
theorem zB_X12_halves_X120 : ∀ w ∈ wsX120, w ∈ wsX12_halves := fun _ h => List.mem_cons_of_mem _ (List.mem_append_right _ h)
set_option maxRecDepth 100000 in
theorem ggX12_halves_X12_isNumber : GoodIn wsX12_halves wsX12_isNumber := goodIn_hd (goodIn_c zc_wsX12_halves_in [(0, 7)] rfl (by decide +kernel)) (goodIn_app (goodIn_c zc_wsX12_halves_in [(0, 8), (0, 9), (0, 10), (0, 6), (0, 11)] rfl (by decide +kernel)) (goodIn_sub zB_X12_halves_X120 zgw_X120))
set_option maxRecDepth 100000 in
theorem gX12_halves_X12_isNumber : GoodIn wsX12_halves (wsV RX12 373 RX12 yX12_isNumber wsX12_isNumber) := goodIn_app (goodIn_r _ [4, 5, 6, 7] rfl (by decide +kernel)) ggX12_halves_X12_isNumber
set_option maxRecDepth 100000 in
theorem ggX12_halves_X12_halve : GoodIn wsX12_halves wsX12_halve := goodIn_hd (goodIn_c zc_wsX12_halves_in [(0, 15)] rfl (by decide +kernel)) (goodIn_app (goodIn_app (goodIn_c zc_wsX12_halves_in [(0, 16), (0, 17), (0, 18), (0, 19), (0, 1), (0, 20), (0, 21), (0, 22), (0, 23), (0, 6), (1, 0), (0, 8), (1, 1), (1, 2), (1, 3), (1, 4), (1, 5), (1, 6), (1, 7), (1, 8), (1, 9), (1, 10), (1, 11), (1, 12)] rfl (by decide +kernel)) (goodIn_app (goodIn_c zc_wsX12_halves_in [(1, 13), (1, 14), (1, 15), (1, 16), (1, 17), (1, 18), (1, 19), (1, 20), (1, 21), (1, 22), (1, 23), (2, 0), (2, 1), (2, 2), (2, 3), (2, 4), (2, 5), (2, 6), (2, 7), (2, 8), (2, 9), (2, 10), (2, 11), (2, 12)] rfl (by decide +kernel)) (goodIn_app (goodIn_c zc_wsX12_halves_in [(2, 13), (2, 14), (2, 15), (2, 16), (2, 17), (2, 18), (2, 19), (2, 20), (2, 21), (2, 22), (2, 23), (3, 0), (3, 1), (3, 2), (3, 3), (3, 4), (3, 5), (3, 6), (3, 7), (3, 8), (3, 9), (3, 10), (3, 11), (3, 12)] rfl (by decide +kernel)) (goodIn_app (goodIn_c zc_wsX12_halves_in [(3, 13), (3, 14), (3, 15), (3, 16), (3, 17), (3, 18), (3, 19), (3, 20), (3, 21), (3, 22), (3, 23), (4, 0), (4, 1), (4, 2), (4, 3), (4, 4), (4, 5), (4, 6), (4, 7), (4, 8), (4, 9), (4, 10), (4, 11), (4, 12)] rfl (by decide +kernel)) (goodIn_app (goodIn_c zc_wsX12_halves_in [(4, 13), (4, 14), (4, 15), (4, 16), (4, 17), (4, 18), (4, 19), (4, 20), (0, 2), (0, 0), (4, 21), (4, 22), (4, 23), (5, 0), (5, 1), (5, 2), (5, 3), (5, 4), (5, 5), (5, 6), (5, 7), (5, 8), (5, 9), (5, 10)] rfl (by decide +kernel)) (goodIn_c zc_wsX12_halves_in [(5, 11), (5, 12), (5, 13), (5, 14), (5, 15), (5, 16), (5, 17), (5, 18), (5, 19), (5, 20), (5, 21)] rfl (by decide +kernel))))))) (goodIn_sub zB_X12_halves_X120 zgw_X120))
set_option maxRecDepth 100000 in
theorem gX12_halves_X12_halve : GoodIn wsX12_halves (wsV RX12 487 RX12 yX12_halve wsX12_halve) := goodIn_app (goodIn_r _ [13, 14, 15, 7] rfl (by decide +kernel)) ggX12_halves_X12_halve
noncomputable def zc_wsX12_laysSingle : List (List Cond) := [wsX12_laysSingle_r1, wsX12_laysSingle_r2, wsX12_laysSingle_r3, wsX12_laysSingle_r4, wsX12_laysSingle_r5, wsX120]
set_option maxRecDepth 20000 in
theorem zc_wsX12_laysSingle_in : ∀ l ∈ zc_wsX12_laysSingle, ∀ w ∈ l, w ∈ wsX12_laysSingle := by
  intro l hl
  unfold zc_wsX12_laysSingle at hl
  rcases List.mem_cons.mp hl with e | hl
  · rw [e]
    exact fun w h => List.mem_cons_of_mem _ (List.mem_append_left _ (List.mem_append_left _ h))
  rcases List.mem_cons.mp hl with e | hl
  · rw [e]
    exact fun w h => List.mem_cons_of_mem _ (List.mem_append_left _ (List.mem_append_right _ (List.mem_append_left _ h)))
  rcases List.mem_cons.mp hl with e | hl
  · rw [e]
    exact fun w h => List.mem_cons_of_mem _ (List.mem_append_left _ (List.mem_append_right _ (List.mem_append_right _ (List.mem_append_left _ h))))
  rcases List.mem_cons.mp hl with e | hl
  · rw [e]
    exact fun w h => List.mem_cons_of_mem _ (List.mem_append_left _ (List.mem_append_right _ (List.mem_append_right _ (List.mem_append_right _ (List.mem_append_left _ h)))))
  rcases List.mem_cons.mp hl with e | hl
  · rw [e]
    exact fun w h => List.mem_cons_of_mem _ (List.mem_append_left _ (List.mem_append_right _ (List.mem_append_right _ (List.mem_append_right _ (List.mem_append_right _ h)))))
  rcases List.mem_cons.mp hl with e | hl
  · rw [e]
    exact fun w h => List.mem_cons_of_mem _ (List.mem_append_right _ h)
  cases hl
theorem zB_X12_laysSingle_X120 : ∀ w ∈ wsX120, w ∈ wsX12_laysSingle := fun _ h => List.mem_cons_of_mem _ (List.mem_append_right _ h)
set_option maxRecDepth 100000 in
theorem ggX12_laysSingle_X12_laysFree : GoodIn wsX12_laysSingle wsX12_laysFree := goodIn_hd (goodIn_c zc_wsX12_laysSingle_in [(0, 13)] rfl (by decide +kernel)) (goodIn_app (goodIn_c zc_wsX12_laysSingle_in [(0, 5), (0, 14), (0, 15), (0, 8), (0, 16), (0, 17), (0, 18), (0, 12), (0, 19), (0, 20)] rfl (by decide +kernel)) (goodIn_sub zB_X12_laysSingle_X120 zgw_X120))
set_option maxRecDepth 100000 in
theorem gX12_laysSingle_X12_laysFree : GoodIn wsX12_laysSingle (wsV RX12 358 RX12 yX12_laysFree wsX12_laysFree) := goodIn_app (goodIn_r _ [10, 11, 12, 13] rfl (by decide +kernel)) ggX12_laysSingle_X12_laysFree
set_option maxRecDepth 100000 in
theorem ggX12_laysSingle_X12_triesHand : GoodIn wsX12_laysSingle wsX12_triesHand := goodIn_hd (goodIn_c zc_wsX12_laysSingle_in [(1, 0)] rfl (by decide +kernel)) (goodIn_app (goodIn_c zc_wsX12_laysSingle_in [(0, 14), (1, 1), (0, 7)] rfl (by decide +kernel)) (goodIn_sub zB_X12_laysSingle_X120 zgw_X120))
set_option maxRecDepth 100000 in
theorem gX12_laysSingle_X12_triesHand : GoodIn wsX12_laysSingle (wsV RX12 440 RX12 yX12_triesHand wsX12_triesHand) := goodIn_app (goodIn_r _ [22, 23, 24, 13] rfl (by decide +kernel)) ggX12_laysSingle_X12_triesHand
set_option maxRecDepth 100000 in
theorem ggX12_laysSingle_X12_costTried : GoodIn wsX12_laysSingle wsX12_costTried := goodIn_hd (goodIn_c zc_wsX12_laysSingle_in [(1, 5)] rfl (by decide +kernel)) (goodIn_app (goodIn_c zc_wsX12_laysSingle_in [(1, 6), (0, 14), (1, 7), (1, 1), (1, 8), (1, 9), (1, 10), (0, 12), (1, 11), (1, 12), (1, 13), (1, 14), (1, 15), (1, 16), (1, 17)] rfl (by decide +kernel)) (goodIn_sub zB_X12_laysSingle_X120 zgw_X120))
set_option maxRecDepth 100000 in
theorem gX12_laysSingle_X12_costTried : GoodIn wsX12_laysSingle (wsV RX12 449 RX12 yX12_costTried wsX12_costTried) := goodIn_app (goodIn_r _ [27, 28, 29, 13] rfl (by decide +kernel)) ggX12_laysSingle_X12_costTried
set_option maxRecDepth 100000 in
theorem ggX12_laysSingle_X12_triesGroup : GoodIn wsX12_laysSingle wsX12_triesGroup := goodIn_hd (goodIn_c zc_wsX12_laysSingle_in [(1, 21)] rfl (by decide +kernel)) (goodIn_app (goodIn_c zc_wsX12_laysSingle_in [(0, 14), (1, 1), (0, 15)] rfl (by decide +kernel)) (goodIn_sub zB_X12_laysSingle_X120 zgw_X120))
set_option maxRecDepth 100000 in
theorem gX12_laysSingle_X12_triesGroup : GoodIn wsX12_laysSingle (wsV RX12 462 RX12 yX12_triesGroup wsX12_triesGroup) := goodIn_app (goodIn_r _ [43, 44, 45, 13] rfl (by decide +kernel)) ggX12_laysSingle_X12_triesGroup
set_option maxRecDepth 100000 in
theorem ggX12_laysSingle_X12_passes : GoodIn wsX12_laysSingle wsX12_passes := goodIn_hd (goodIn_c zc_wsX12_laysSingle_in [(2, 1)] rfl (by decide +kernel)) (goodIn_app (goodIn_app (goodIn_c zc_wsX12_laysSingle_in [(2, 2), (2, 3), (0, 14), (2, 4), (2, 5), (1, 1), (2, 6), (2, 7), (2, 8), (2, 9), (0, 12), (2, 10), (2, 11), (0, 0), (2, 12), (2, 13), (2, 14), (2, 15), (2, 16), (2, 17), (2, 18), (2, 19), (2, 20), (1, 13)] rfl (by decide +kernel)) (goodIn_app (goodIn_c zc_wsX12_laysSingle_in [(1, 12), (2, 21), (2, 22), (2, 23), (3, 0), (3, 1), (3, 2), (3, 3), (3, 4), (3, 5), (3, 6), (3, 7), (3, 8), (3, 9), (3, 10), (3, 11), (3, 12), (3, 13), (3, 14), (3, 15), (3, 16), (3, 17), (3, 18), (3, 19)] rfl (by decide +kernel)) (goodIn_c zc_wsX12_laysSingle_in [(3, 20), (3, 21), (3, 22), (3, 23), (4, 0), (4, 1), (4, 2), (4, 3), (4, 4), (4, 5), (4, 6), (4, 7), (4, 8), (4, 9), (4, 10)] rfl (by decide +kernel)))) (goodIn_sub zB_X12_laysSingle_X120 zgw_X120))
set_option maxRecDepth 100000 in
theorem gX12_laysSingle_X12_passes : GoodIn wsX12_laysSingle (wsV RX12 443 RX12 yX12_passes wsX12_passes) := goodIn_app (goodIn_r _ [47, 48, 49, 13] rfl (by decide +kernel)) ggX12_laysSingle_X12_passes
noncomputable def zc_wsX12_single : List (List Cond) := [wsX12_single_r1, wsX12_single_r2, wsX12_single_r3, wsX12_single_r4, wsX12_single_r5, wsX120]
set_option maxRecDepth 20000 in
theorem zc_wsX12_single_in : ∀ l ∈ zc_wsX12_single, ∀ w ∈ l, w ∈ wsX12_single := by
  intro l hl
  unfold zc_wsX12_single at hl
  rcases List.mem_cons.mp hl with e | hl
  · rw [e]
    exact fun w h => List.mem_cons_of_mem _ (List.mem_append_left _ (List.mem_append_left _ h))
  rcases List.mem_cons.mp hl with e | hl
  · rw [e]
    exact fun w h => List.mem_cons_of_mem _ (List.mem_append_left _ (List.mem_append_right _ (List.mem_append_left _ h)))
  rcases List.mem_cons.mp hl with e | hl
  · rw [e]
    exact fun w h => List.mem_cons_of_mem _ (List.mem_append_left _ (List.mem_append_right _ (List.mem_append_right _ (List.mem_append_left _ h))))
  rcases List.mem_cons.mp hl with e | hl
  · rw [e]
    exact fun w h => List.mem_cons_of_mem _ (List.mem_append_left _ (List.mem_append_right _ (List.mem_append_right _ (List.mem_append_right _ (List.mem_append_left _ h)))))
  rcases List.mem_cons.mp hl with e | hl
  · rw [e]
    exact fun w h => List.mem_cons_of_mem _ (List.mem_append_left _ (List.mem_append_right _ (List.mem_append_right _ (List.mem_append_right _ (List.mem_append_right _ h)))))
  rcases List.mem_cons.mp hl with e | hl
  · rw [e]
    exact fun w h => List.mem_cons_of_mem _ (List.mem_append_right _ h)
  cases hl
theorem zB_X12_single_X120 : ∀ w ∈ wsX120, w ∈ wsX12_single := fun _ h => List.mem_cons_of_mem _ (List.mem_append_right _ h)
set_option maxRecDepth 100000 in
theorem ggX12_single_X12_isThere : GoodIn wsX12_single wsX12_isThere := goodIn_hd (goodIn_c zc_wsX12_single_in [(0, 9)] rfl (by decide +kernel)) (goodIn_app (goodIn_c zc_wsX12_single_in [(0, 10), (0, 11)] rfl (by decide +kernel)) (goodIn_sub zB_X12_single_X120 zgw_X120))
set_option maxRecDepth 100000 in
theorem gX12_single_X12_isThere : GoodIn wsX12_single (wsV RX12 446 RX12 yX12_isThere wsX12_isThere) := goodIn_app (goodIn_r _ [6, 7, 8, 9] rfl (by decide +kernel)) ggX12_single_X12_isThere
set_option maxRecDepth 100000 in
theorem ggX12_single_X12_isIn : GoodIn wsX12_single wsX12_isIn := goodIn_r _ [15] rfl (by decide +kernel)
set_option maxRecDepth 100000 in
theorem gX12_single_X12_isIn : GoodIn wsX12_single (va_wsS RX12 263 yX12_isIn wsX12_isIn) := goodIn_app (goodIn_r _ [13, 14, 9] rfl (by decide +kernel)) ggX12_single_X12_isIn
set_option maxRecDepth 100000 in
theorem ggX12_single_X12_laysSingle : GoodIn wsX12_single wsX12_laysSingle := goodIn_hd (goodIn_c zc_wsX12_single_in [(0, 18)] rfl (by decide +kernel)) (goodIn_app (goodIn_app (goodIn_c zc_wsX12_single_in [(0, 19), (0, 1), (0, 2), (0, 3), (0, 4), (0, 20), (0, 21), (0, 22), (0, 23), (1, 0), (1, 1), (1, 2), (0, 8), (1, 3), (0, 11), (1, 4), (1, 5), (1, 6), (1, 7), (1, 8), (1, 9), (1, 10), (1, 11), (1, 12)] rfl (by decide +kernel)) (goodIn_app (goodIn_c zc_wsX12_single_in [(1, 13), (1, 14), (1, 15), (1, 16), (1, 17), (1, 18), (1, 19), (1, 20), (1, 21), (1, 22), (1, 23), (2, 0), (2, 1), (2, 2), (2, 3), (2, 4), (2, 5), (2, 6), (2, 7), (2, 8), (2, 9), (2, 10), (2, 11), (2, 12)] rfl (by decide +kernel)) (goodIn_app (goodIn_c zc_wsX12_single_in [(2, 13), (2, 14), (2, 15), (2, 16), (2, 17), (2, 18), (2, 19), (2, 20), (2, 21), (2, 22), (2, 23), (3, 0), (3, 1), (3, 2), (3, 3), (3, 4), (3, 5), (3, 6), (3, 7), (3, 8), (3, 9), (3, 10), (3, 11), (3, 12)] rfl (by decide +kernel)) (goodIn_app (goodIn_c zc_wsX12_single_in [(3, 13), (3, 14), (3, 15), (3, 16), (3, 17), (3, 18), (3, 19), (3, 20), (3, 21), (3, 22), (3, 23), (4, 0), (4, 1), (4, 2), (4, 3), (4, 4), (4, 5), (4, 6), (4, 7), (4, 8), (4, 9), (4, 10), (4, 11), (4, 12)] rfl (by decide +kernel)) (goodIn_c zc_wsX12_single_in [(4, 13), (4, 14), (4, 15), (4, 16), (4, 17), (4, 18), (4, 19), (4, 20), (4, 21), (4, 22), (4, 23)] rfl (by decide +kernel)))))) (goodIn_sub zB_X12_single_X120 zgw_X120))
set_option maxRecDepth 100000 in
theorem gX12_single_X12_laysSingle : GoodIn wsX12_single (wsV RX12 492 RX12 yX12_laysSingle wsX12_laysSingle) := goodIn_app (goodIn_r _ [16, 17, 18, 9] rfl (by decide +kernel)) ggX12_single_X12_laysSingle
noncomputable def zc_wsX12_canTake : List (List Cond) := [wsX12_canTake_r1, wsX12_canTake_r2, wsX12_canTake_r3, wsX12_canTake_r4, wsX12_canTake_r5, wsX12_canTake_r6, wsX12_canTake_r7, wsX120]
set_option maxRecDepth 20000 in
theorem zc_wsX12_canTake_in : ∀ l ∈ zc_wsX12_canTake, ∀ w ∈ l, w ∈ wsX12_canTake := by
  intro l hl
  unfold zc_wsX12_canTake at hl
  rcases List.mem_cons.mp hl with e | hl
  · rw [e]
    exact fun w h => List.mem_cons_of_mem _ (List.mem_append_left _ (List.mem_append_left _ h))
  rcases List.mem_cons.mp hl with e | hl
  · rw [e]
    exact fun w h => List.mem_cons_of_mem _ (List.mem_append_left _ (List.mem_append_right _ (List.mem_append_left _ h)))
  rcases List.mem_cons.mp hl with e | hl
  · rw [e]
    exact fun w h => List.mem_cons_of_mem _ (List.mem_append_left _ (List.mem_append_right _ (List.mem_append_right _ (List.mem_append_left _ h))))
  rcases List.mem_cons.mp hl with e | hl
  · rw [e]
    exact fun w h => List.mem_cons_of_mem _ (List.mem_append_left _ (List.mem_append_right _ (List.mem_append_right _ (List.mem_append_right _ (List.mem_append_left _ h)))))
  rcases List.mem_cons.mp hl with e | hl
  · rw [e]
    exact fun w h => List.mem_cons_of_mem _ (List.mem_append_left _ (List.mem_append_right _ (List.mem_append_right _ (List.mem_append_right _ (List.mem_append_right _ (List.mem_append_left _ h))))))
  rcases List.mem_cons.mp hl with e | hl
  · rw [e]
    exact fun w h => List.mem_cons_of_mem _ (List.mem_append_left _ (List.mem_append_right _ (List.mem_append_right _ (List.mem_append_right _ (List.mem_append_right _ (List.mem_append_right _ (List.mem_append_left _ h)))))))
  rcases List.mem_cons.mp hl with e | hl
  · rw [e]
    exact fun w h => List.mem_cons_of_mem _ (List.mem_append_left _ (List.mem_append_right _ (List.mem_append_right _ (List.mem_append_right _ (List.mem_append_right _ (List.mem_append_right _ (List.mem_append_right _ h)))))))
  rcases List.mem_cons.mp hl with e | hl
  · rw [e]
    exact fun w h => List.mem_cons_of_mem _ (List.mem_append_right _ h)
  cases hl
theorem zB_X12_canTake_X120 : ∀ w ∈ wsX120, w ∈ wsX12_canTake := fun _ h => List.mem_cons_of_mem _ (List.mem_append_right _ h)
set_option maxRecDepth 100000 in
theorem ggX12_canTake_X12_canSearch : GoodIn wsX12_canTake wsX12_canSearch := goodIn_hd (goodIn_c zc_wsX12_canTake_in [(0, 9)] rfl (by decide +kernel)) (goodIn_app (goodIn_c zc_wsX12_canTake_in [(0, 10), (0, 0), (0, 11), (0, 12), (0, 13), (0, 14), (0, 15), (0, 8), (0, 16), (0, 17), (0, 18), (0, 19), (0, 20), (0, 21), (0, 22), (0, 23)] rfl (by decide +kernel)) (goodIn_sub zB_X12_canTake_X120 zgw_X120))
set_option maxRecDepth 100000 in
theorem gX12_canTake_X12_canSearch : GoodIn wsX12_canTake (wsV RX12 471 RX12 yX12_canSearch wsX12_canSearch) := goodIn_app (goodIn_r _ [6, 7, 8, 9] rfl (by decide +kernel)) ggX12_canTake_X12_canSearch
set_option maxRecDepth 100000 in
theorem ggX12_canTake_X12_cheapestChoice : GoodIn wsX12_canTake wsX12_cheapestChoice := goodIn_hd (goodIn_c zc_wsX12_canTake_in [(1, 3)] rfl (by decide +kernel)) (goodIn_app (goodIn_app (goodIn_c zc_wsX12_canTake_in [(1, 4), (1, 5), (1, 6), (0, 8), (1, 7), (0, 12), (1, 8), (1, 9), (1, 10), (1, 11), (1, 12), (0, 18), (1, 13), (1, 14), (1, 15), (1, 16), (0, 0), (0, 1), (1, 17), (1, 18), (1, 19), (1, 20), (1, 21), (0, 17)] rfl (by decide +kernel)) (goodIn_app (goodIn_c zc_wsX12_canTake_in [(1, 22), (1, 23), (2, 0), (2, 1), (2, 2), (2, 3), (2, 4), (2, 5), (2, 6), (2, 7), (2, 8), (2, 9), (2, 10), (2, 11), (2, 12), (2, 13), (2, 14), (2, 15), (2, 16), (2, 17), (2, 18), (2, 19), (2, 20), (2, 21)] rfl (by decide +kernel)) (goodIn_app (goodIn_c zc_wsX12_canTake_in [(2, 22), (2, 23), (3, 0), (3, 1), (3, 2), (3, 3), (0, 10), (3, 4), (3, 5), (3, 6), (3, 7), (3, 8), (3, 9), (3, 10), (3, 11), (3, 12), (3, 13), (3, 14), (3, 15), (3, 16), (3, 17), (3, 18), (3, 19), (3, 20)] rfl (by decide +kernel)) (goodIn_app (goodIn_c zc_wsX12_canTake_in [(3, 21), (3, 22), (3, 23), (4, 0), (4, 1), (4, 2), (4, 3), (4, 4), (4, 5), (4, 6), (4, 7), (4, 8), (4, 9), (4, 10), (4, 11), (4, 12), (4, 13), (4, 14), (4, 15), (4, 16), (4, 17), (4, 18), (4, 19), (4, 20)] rfl (by decide +kernel)) (goodIn_c zc_wsX12_canTake_in [(4, 21), (4, 22), (4, 23), (5, 0), (5, 1), (5, 2)] rfl (by decide +kernel)))))) (goodIn_sub zB_X12_canTake_X120 zgw_X120))
set_option maxRecDepth 100000 in
theorem gX12_canTake_X12_cheapestChoice : GoodIn wsX12_canTake (wsV RX12 474 RX12 yX12_cheapestChoice wsX12_cheapestChoice) := goodIn_app (goodIn_r _ [25, 26, 27, 9] rfl (by decide +kernel)) ggX12_canTake_X12_cheapestChoice
set_option maxRecDepth 100000 in
theorem ggX12_canTake_X12_triesChoice : GoodIn wsX12_canTake wsX12_triesChoice := goodIn_hd (goodIn_c zc_wsX12_canTake_in [(1, 12)] rfl (by decide +kernel)) (goodIn_app (goodIn_c zc_wsX12_canTake_in [(0, 12), (0, 18), (1, 8), (1, 13), (1, 14), (1, 15), (0, 8), (1, 16), (0, 0), (0, 1), (1, 17), (1, 18), (1, 19), (1, 20), (1, 21), (0, 17)] rfl (by decide +kernel)) (goodIn_sub zB_X12_canTake_X120 zgw_X120))
set_option maxRecDepth 100000 in
theorem gX12_canTake_X12_triesChoice : GoodIn wsX12_canTake (wsV RX12 468 RX12 yX12_triesChoice wsX12_triesChoice) := goodIn_app (goodIn_r _ [34, 35, 36, 9] rfl (by decide +kernel)) ggX12_canTake_X12_triesChoice
set_option maxRecDepth 100000 in
theorem ggX12_canTake_X12_halve : GoodIn wsX12_canTake wsX12_halve := goodIn_hd (goodIn_c zc_wsX12_canTake_in [(5, 6)] rfl (by decide +kernel)) (goodIn_app (goodIn_app (goodIn_c zc_wsX12_canTake_in [(0, 10), (0, 12), (0, 18), (5, 7), (5, 8), (1, 8), (0, 13), (0, 14), (0, 15), (0, 8), (0, 16), (0, 0), (0, 17), (0, 19), (0, 20), (0, 21), (0, 22), (0, 23), (5, 9), (5, 10), (5, 11), (5, 12), (0, 11), (5, 13)] rfl (by decide +kernel)) (goodIn_app (goodIn_c zc_wsX12_canTake_in [(5, 14), (5, 15), (5, 16), (4, 15), (1, 13), (1, 14), (1, 15), (1, 16), (0, 1), (1, 17), (1, 18), (1, 19), (1, 20), (1, 21), (2, 14), (2, 15), (2, 16), (2, 17), (2, 18), (2, 19), (2, 20), (2, 21), (2, 22), (2, 23)] rfl (by decide +kernel)) (goodIn_app (goodIn_c zc_wsX12_canTake_in [(3, 0), (3, 1), (3, 2), (3, 3), (3, 4), (3, 5), (3, 6), (3, 7), (3, 8), (3, 9), (3, 10), (3, 11), (3, 12), (2, 9), (2, 8), (3, 13), (3, 14), (3, 15), (3, 16), (3, 17), (3, 18), (3, 19), (3, 20), (3, 21)] rfl (by decide +kernel)) (goodIn_app (goodIn_c zc_wsX12_canTake_in [(3, 22), (3, 23), (4, 0), (4, 1), (4, 2), (4, 3), (4, 4), (4, 5), (4, 6), (4, 7), (4, 8), (4, 9), (4, 10), (4, 11), (4, 12), (4, 13), (4, 14), (4, 16), (4, 17), (4, 18), (4, 19), (4, 20), (4, 21), (4, 22)] rfl (by decide +kernel)) (goodIn_app (goodIn_c zc_wsX12_canTake_in [(4, 23), (5, 0), (5, 1), (5, 2), (5, 17), (5, 18), (5, 19), (5, 20), (0, 2), (5, 21), (1, 22), (1, 23), (2, 0), (2, 1), (2, 2), (2, 3), (2, 4), (2, 5), (2, 6), (2, 7), (2, 10), (2, 11), (2, 12), (2, 13)] rfl (by decide +kernel)) (goodIn_c zc_wsX12_canTake_in [(5, 22), (5, 23), (6, 0), (6, 1), (6, 2), (6, 3), (6, 4), (6, 5), (6, 6), (6, 7), (6, 8)] rfl (by decide +kernel))))))) (goodIn_sub zB_X12_canTake_X120 zgw_X120))
set_option maxRecDepth 100000 in
theorem gX12_canTake_X12_halve : GoodIn wsX12_canTake (wsV RX12 487 RX12 yX12_halve wsX12_halve) := goodIn_app (goodIn_r _ [124, 125, 126, 9] rfl (by decide +kernel)) ggX12_canTake_X12_halve
set_option maxRecDepth 100000 in
theorem ggX12_canTake_X12_isThere : GoodIn wsX12_canTake wsX12_isThere := goodIn_hd (goodIn_c zc_wsX12_canTake_in [(5, 12)] rfl (by decide +kernel)) (goodIn_app (goodIn_c zc_wsX12_canTake_in [(0, 11), (0, 0)] rfl (by decide +kernel)) (goodIn_sub zB_X12_canTake_X120 zgw_X120))
set_option maxRecDepth 100000 in
theorem gX12_canTake_X12_isThere : GoodIn wsX12_canTake (wsV RX12 446 RX12 yX12_isThere wsX12_isThere) := goodIn_app (goodIn_r _ [130, 131, 132, 9] rfl (by decide +kernel)) ggX12_canTake_X12_isThere
set_option maxRecDepth 100000 in
theorem ggX12_canTake_X12_laysSingle : GoodIn wsX12_canTake wsX12_laysSingle := goodIn_hd (goodIn_c zc_wsX12_canTake_in [(6, 12)] rfl (by decide +kernel)) (goodIn_app (goodIn_app (goodIn_c zc_wsX12_canTake_in [(0, 10), (6, 13), (6, 14), (0, 3), (0, 4), (0, 12), (1, 8), (1, 17), (0, 18), (0, 13), (0, 14), (0, 15), (0, 8), (0, 16), (0, 0), (0, 17), (0, 19), (0, 20), (0, 21), (0, 22), (0, 23), (1, 13), (1, 14), (1, 15)] rfl (by decide +kernel)) (goodIn_app (goodIn_c zc_wsX12_canTake_in [(1, 16), (0, 1), (1, 22), (1, 23), (2, 0), (2, 1), (2, 2), (2, 3), (2, 4), (2, 5), (2, 6), (2, 7), (2, 8), (2, 9), (2, 10), (2, 11), (2, 12), (2, 13), (1, 18), (1, 19), (1, 20), (1, 21), (2, 14), (2, 15)] rfl (by decide +kernel)) (goodIn_app (goodIn_c zc_wsX12_canTake_in [(2, 16), (2, 17), (2, 18), (2, 19), (2, 20), (2, 21), (2, 22), (2, 23), (3, 0), (3, 1), (3, 2), (3, 3), (3, 4), (3, 5), (3, 6), (3, 7), (3, 8), (3, 9), (3, 10), (3, 11), (3, 12), (3, 13), (3, 14), (3, 15)] rfl (by decide +kernel)) (goodIn_app (goodIn_c zc_wsX12_canTake_in [(3, 16), (3, 17), (3, 18), (3, 19), (3, 20), (3, 21), (3, 22), (3, 23), (4, 0), (4, 1), (4, 2), (4, 3), (4, 4), (4, 5), (4, 6), (4, 7), (4, 8), (4, 9), (4, 10), (4, 11), (4, 12), (4, 13), (4, 14), (4, 15)] rfl (by decide +kernel)) (goodIn_c zc_wsX12_canTake_in [(4, 16), (4, 17), (4, 18), (4, 19), (4, 20), (4, 21), (4, 22), (4, 23), (5, 0), (5, 1), (5, 2)] rfl (by decide +kernel)))))) (goodIn_sub zB_X12_canTake_X120 zgw_X120))
set_option maxRecDepth 100000 in
theorem gX12_canTake_X12_laysSingle : GoodIn wsX12_canTake (wsV RX12 492 RX12 yX12_laysSingle wsX12_laysSingle) := goodIn_app (goodIn_r _ [154, 155, 156, 9] rfl (by decide +kernel)) ggX12_canTake_X12_laysSingle
set_option maxRecDepth 100000 in
theorem ggX12_canTake_X12_triesHand : GoodIn wsX12_canTake wsX12_triesHand := goodIn_hd (goodIn_c zc_wsX12_canTake_in [(1, 16)] rfl (by decide +kernel)) (goodIn_app (goodIn_c zc_wsX12_canTake_in [(0, 0), (0, 1), (1, 17)] rfl (by decide +kernel)) (goodIn_sub zB_X12_canTake_X120 zgw_X120))
set_option maxRecDepth 100000 in
theorem gX12_canTake_X12_triesHand : GoodIn wsX12_canTake (wsV RX12 440 RX12 yX12_triesHand wsX12_triesHand) := goodIn_app (goodIn_r _ [38, 39, 40, 9] rfl (by decide +kernel)) ggX12_canTake_X12_triesHand
set_option maxRecDepth 100000 in
theorem ggX12_canTake_X12_triesGroup : GoodIn wsX12_canTake wsX12_triesGroup := goodIn_hd (goodIn_c zc_wsX12_canTake_in [(1, 21)] rfl (by decide +kernel)) (goodIn_app (goodIn_c zc_wsX12_canTake_in [(0, 0), (0, 1), (0, 17)] rfl (by decide +kernel)) (goodIn_sub zB_X12_canTake_X120 zgw_X120))
set_option maxRecDepth 100000 in
theorem gX12_canTake_X12_triesGroup : GoodIn wsX12_canTake (wsV RX12 462 RX12 yX12_triesGroup wsX12_triesGroup) := goodIn_app (goodIn_r _ [43, 44, 45, 9] rfl (by decide +kernel)) ggX12_canTake_X12_triesGroup
noncomputable def zc_wsX12_take : List (List Cond) := [wsX12_take_r1, wsX12_take_r2, wsX12_take_r3, wsX12_take_r4, wsX12_take_r5, wsX12_take_r6, wsX12_take_r7, wsX12_take_r8, wsX120]
set_option maxRecDepth 20000 in
theorem zc_wsX12_take_in : ∀ l ∈ zc_wsX12_take, ∀ w ∈ l, w ∈ wsX12_take := by
  intro l hl
  unfold zc_wsX12_take at hl
  rcases List.mem_cons.mp hl with e | hl
  · rw [e]
    exact fun w h => List.mem_cons_of_mem _ (List.mem_append_left _ (List.mem_append_left _ h))
  rcases List.mem_cons.mp hl with e | hl
  · rw [e]
    exact fun w h => List.mem_cons_of_mem _ (List.mem_append_left _ (List.mem_append_right _ (List.mem_append_left _ h)))
  rcases List.mem_cons.mp hl with e | hl
  · rw [e]
    exact fun w h => List.mem_cons_of_mem _ (List.mem_append_left _ (List.mem_append_right _ (List.mem_append_right _ (List.mem_append_left _ h))))
  rcases List.mem_cons.mp hl with e | hl
  · rw [e]
    exact fun w h => List.mem_cons_of_mem _ (List.mem_append_left _ (List.mem_append_right _ (List.mem_append_right _ (List.mem_append_right _ (List.mem_append_left _ h)))))
  rcases List.mem_cons.mp hl with e | hl
  · rw [e]
    exact fun w h => List.mem_cons_of_mem _ (List.mem_append_left _ (List.mem_append_right _ (List.mem_append_right _ (List.mem_append_right _ (List.mem_append_right _ (List.mem_append_left _ h))))))
  rcases List.mem_cons.mp hl with e | hl
  · rw [e]
    exact fun w h => List.mem_cons_of_mem _ (List.mem_append_left _ (List.mem_append_right _ (List.mem_append_right _ (List.mem_append_right _ (List.mem_append_right _ (List.mem_append_right _ (List.mem_append_left _ h)))))))
  rcases List.mem_cons.mp hl with e | hl
  · rw [e]
    exact fun w h => List.mem_cons_of_mem _ (List.mem_append_left _ (List.mem_append_right _ (List.mem_append_right _ (List.mem_append_right _ (List.mem_append_right _ (List.mem_append_right _ (List.mem_append_right _ (List.mem_append_left _ h))))))))
  rcases List.mem_cons.mp hl with e | hl
  · rw [e]
    exact fun w h => List.mem_cons_of_mem _ (List.mem_append_left _ (List.mem_append_right _ (List.mem_append_right _ (List.mem_append_right _ (List.mem_append_right _ (List.mem_append_right _ (List.mem_append_right _ (List.mem_append_right _ h))))))))
  rcases List.mem_cons.mp hl with e | hl
  · rw [e]
    exact fun w h => List.mem_cons_of_mem _ (List.mem_append_right _ h)
  cases hl
theorem zB_X12_take_X120 : ∀ w ∈ wsX120, w ∈ wsX12_take := fun _ h => List.mem_cons_of_mem _ (List.mem_append_right _ h)
set_option maxRecDepth 100000 in
theorem ggX12_take_X12_canTake : GoodIn wsX12_take wsX12_canTake := goodIn_hd (goodIn_c zc_wsX12_take_in [(0, 4)] rfl (by decide +kernel)) (goodIn_app (goodIn_app (goodIn_c zc_wsX12_take_in [(0, 5), (0, 6), (0, 7), (0, 8), (0, 9), (0, 10), (0, 11), (0, 12), (0, 3), (0, 13), (0, 14), (0, 15), (0, 16), (0, 17), (0, 18), (0, 19), (0, 20), (0, 21), (0, 22), (0, 23), (1, 0), (1, 1), (1, 2), (1, 3)] rfl (by decide +kernel)) (goodIn_app (goodIn_c zc_wsX12_take_in [(1, 4), (1, 5), (1, 6), (1, 7), (1, 8), (1, 9), (1, 10), (1, 11), (1, 12), (1, 13), (1, 14), (1, 15), (1, 16), (1, 17), (1, 18), (1, 19), (1, 20), (1, 21), (1, 22), (1, 23), (2, 0), (2, 1), (2, 2), (2, 3)] rfl (by decide +kernel)) (goodIn_app (goodIn_c zc_wsX12_take_in [(2, 4), (2, 5), (2, 6), (2, 7), (2, 8), (2, 9), (2, 10), (2, 11), (2, 12), (2, 13), (2, 14), (2, 15), (2, 16), (2, 17), (2, 18), (2, 19), (2, 20), (2, 21), (2, 22), (2, 23), (3, 0), (3, 1), (3, 2), (3, 3)] rfl (by decide +kernel)) (goodIn_app (goodIn_c zc_wsX12_take_in [(3, 4), (3, 5), (3, 6), (3, 7), (3, 8), (3, 9), (3, 10), (3, 11), (3, 12), (3, 13), (3, 14), (3, 15), (3, 16), (3, 17), (3, 18), (3, 19), (3, 20), (3, 21), (3, 22), (3, 23), (4, 0), (4, 1), (4, 2), (4, 3)] rfl (by decide +kernel)) (goodIn_app (goodIn_c zc_wsX12_take_in [(4, 4), (4, 5), (4, 6), (4, 7), (4, 8), (4, 9), (4, 10), (4, 11), (4, 12), (4, 13), (4, 14), (4, 15), (4, 16), (4, 17), (4, 18), (4, 19), (4, 20), (4, 21), (4, 22), (4, 23), (5, 0), (5, 1), (5, 2), (5, 3)] rfl (by decide +kernel)) (goodIn_app (goodIn_c zc_wsX12_take_in [(5, 4), (5, 5), (5, 6), (5, 7), (5, 8), (5, 9), (5, 10), (5, 11), (5, 12), (5, 13), (5, 14), (5, 15), (5, 16), (5, 17), (5, 18), (5, 19), (5, 20), (5, 21), (5, 22), (5, 23), (6, 0), (6, 1), (6, 2), (6, 3)] rfl (by decide +kernel)) (goodIn_c zc_wsX12_take_in [(6, 4), (6, 5), (6, 6), (6, 7), (6, 8), (6, 9), (6, 10), (6, 11), (6, 12), (6, 13), (6, 14), (6, 15), (6, 16), (6, 17), (6, 18)] rfl (by decide +kernel)))))))) (goodIn_sub zB_X12_take_X120 zgw_X120))
set_option maxRecDepth 100000 in
theorem gX12_take_X12_canTake : GoodIn wsX12_take (wsV RX12 495 RX12 yX12_canTake wsX12_canTake) := goodIn_app (goodIn_r _ [1, 2, 3, 4] rfl (by decide +kernel)) ggX12_take_X12_canTake
set_option maxRecDepth 100000 in
theorem ggX12_take_X12_refuses : GoodIn wsX12_take wsX12_refuses := goodIn_hd (goodIn_c zc_wsX12_take_in [(6, 22)] rfl (by decide +kernel)) (goodIn_app (goodIn_c zc_wsX12_take_in [(6, 23)] rfl (by decide +kernel)) (goodIn_sub zB_X12_take_X120 zgw_X120))
set_option maxRecDepth 100000 in
theorem gX12_take_X12_refuses : GoodIn wsX12_take (wsV RX12 216 RX12 yX12_refuses wsX12_refuses) := goodIn_app (goodIn_r _ [164, 165, 166, 4] rfl (by decide +kernel)) ggX12_take_X12_refuses
set_option maxRecDepth 100000 in
theorem ggX12_take_X12_takesTried : GoodIn wsX12_take wsX12_takesTried := goodIn_hd (goodIn_c zc_wsX12_take_in [(7, 3)] rfl (by decide +kernel)) (goodIn_app (goodIn_c zc_wsX12_take_in [(0, 5), (1, 21), (0, 6)] rfl (by decide +kernel)) (goodIn_sub zB_X12_take_X120 zgw_X120))
set_option maxRecDepth 100000 in
theorem gX12_take_X12_takesTried : GoodIn wsX12_take (wsV RX12 498 RX12 yX12_takesTried wsX12_takesTried) := goodIn_app (goodIn_r _ [169, 170, 171, 4] rfl (by decide +kernel)) ggX12_take_X12_takesTried
set_option maxRecDepth 100000 in
theorem ggX12_take_X12_costTried : GoodIn wsX12_take wsX12_costTried := goodIn_hd (goodIn_c zc_wsX12_take_in [(2, 5)] rfl (by decide +kernel)) (goodIn_app (goodIn_c zc_wsX12_take_in [(2, 6), (0, 5), (2, 7), (0, 6), (2, 8), (2, 9), (2, 10), (0, 3), (2, 11), (2, 12), (2, 13), (2, 14), (2, 15), (2, 16), (2, 17)] rfl (by decide +kernel)) (goodIn_sub zB_X12_take_X120 zgw_X120))
set_option maxRecDepth 100000 in
theorem gX12_take_X12_costTried : GoodIn wsX12_take (wsV RX12 449 RX12 yX12_costTried wsX12_costTried) := goodIn_app (goodIn_r _ [51, 52, 53, 4] rfl (by decide +kernel)) ggX12_take_X12_costTried
noncomputable def zc_wsX12_laysFront : List (List Cond) := [wsX12_laysFront_r1, wsX12_laysFront_r2, wsX12_laysFront_r3, wsX12_laysFront_r4, wsX12_laysFront_r5, wsX120]
set_option maxRecDepth 20000 in
theorem zc_wsX12_laysFront_in : ∀ l ∈ zc_wsX12_laysFront, ∀ w ∈ l, w ∈ wsX12_laysFront := by
  intro l hl
  unfold zc_wsX12_laysFront at hl
  rcases List.mem_cons.mp hl with e | hl
  · rw [e]
    exact fun w h => List.mem_cons_of_mem _ (List.mem_append_left _ (List.mem_append_left _ h))
  rcases List.mem_cons.mp hl with e | hl
  · rw [e]
    exact fun w h => List.mem_cons_of_mem _ (List.mem_append_left _ (List.mem_append_right _ (List.mem_append_left _ h)))
  rcases List.mem_cons.mp hl with e | hl
  · rw [e]
    exact fun w h => List.mem_cons_of_mem _ (List.mem_append_left _ (List.mem_append_right _ (List.mem_append_right _ (List.mem_append_left _ h))))
  rcases List.mem_cons.mp hl with e | hl
  · rw [e]
    exact fun w h => List.mem_cons_of_mem _ (List.mem_append_left _ (List.mem_append_right _ (List.mem_append_right _ (List.mem_append_right _ (List.mem_append_left _ h)))))
  rcases List.mem_cons.mp hl with e | hl
  · rw [e]
    exact fun w h => List.mem_cons_of_mem _ (List.mem_append_left _ (List.mem_append_right _ (List.mem_append_right _ (List.mem_append_right _ (List.mem_append_right _ h)))))
  rcases List.mem_cons.mp hl with e | hl
  · rw [e]
    exact fun w h => List.mem_cons_of_mem _ (List.mem_append_right _ h)
  cases hl
theorem zB_X12_laysFront_X120 : ∀ w ∈ wsX120, w ∈ wsX12_laysFront := fun _ h => List.mem_cons_of_mem _ (List.mem_append_right _ h)
set_option maxRecDepth 100000 in
theorem ggX12_laysFront_X12_allChoices : GoodIn wsX12_laysFront wsX12_allChoices := goodIn_hd (goodIn_c zc_wsX12_laysFront_in [(0, 9)] rfl (by decide +kernel)) (goodIn_app (goodIn_c zc_wsX12_laysFront_in [(0, 10), (0, 11)] rfl (by decide +kernel)) (goodIn_sub zB_X12_laysFront_X120 zgw_X120))
set_option maxRecDepth 100000 in
theorem gX12_laysFront_X12_allChoices : GoodIn wsX12_laysFront (wsV RX12 465 RX12 yX12_allChoices wsX12_allChoices) := goodIn_app (goodIn_r _ [6, 7, 8, 9] rfl (by decide +kernel)) ggX12_laysFront_X12_allChoices
set_option maxRecDepth 100000 in
theorem ggX12_laysFront_X12_triesChoice : GoodIn wsX12_laysFront wsX12_triesChoice := goodIn_hd (goodIn_c zc_wsX12_laysFront_in [(0, 15)] rfl (by decide +kernel)) (goodIn_app (goodIn_c zc_wsX12_laysFront_in [(0, 10), (0, 16), (0, 11), (0, 17), (0, 18), (0, 19), (0, 8), (0, 20), (0, 21), (0, 22), (0, 23), (1, 0), (1, 1), (1, 2), (1, 3), (1, 4)] rfl (by decide +kernel)) (goodIn_sub zB_X12_laysFront_X120 zgw_X120))
set_option maxRecDepth 100000 in
theorem gX12_laysFront_X12_triesChoice : GoodIn wsX12_laysFront (wsV RX12 468 RX12 yX12_triesChoice wsX12_triesChoice) := goodIn_app (goodIn_r _ [13, 14, 15, 9] rfl (by decide +kernel)) ggX12_laysFront_X12_triesChoice
set_option maxRecDepth 100000 in
theorem ggX12_laysFront_X12_passes : GoodIn wsX12_laysFront wsX12_passes := goodIn_hd (goodIn_c zc_wsX12_laysFront_in [(1, 8)] rfl (by decide +kernel)) (goodIn_app (goodIn_app (goodIn_c zc_wsX12_laysFront_in [(1, 9), (1, 10), (0, 21), (0, 1), (1, 11), (0, 22), (1, 12), (1, 13), (1, 14), (1, 15), (0, 8), (1, 16), (1, 17), (1, 18), (1, 19), (1, 20), (1, 21), (1, 22), (1, 23), (2, 0), (2, 1), (2, 2), (2, 3), (2, 4)] rfl (by decide +kernel)) (goodIn_app (goodIn_c zc_wsX12_laysFront_in [(2, 5), (2, 6), (2, 7), (2, 8), (2, 9), (2, 10), (2, 11), (2, 12), (2, 13), (2, 14), (2, 15), (2, 16), (2, 17), (2, 18), (2, 19), (2, 20), (2, 21), (2, 22), (2, 23), (3, 0), (3, 1), (3, 2), (3, 3), (3, 4)] rfl (by decide +kernel)) (goodIn_c zc_wsX12_laysFront_in [(3, 5), (3, 6), (3, 7), (3, 8), (3, 9), (3, 10), (3, 11), (3, 12), (3, 13), (3, 14), (3, 15), (3, 16), (3, 17), (3, 18), (3, 19)] rfl (by decide +kernel)))) (goodIn_sub zB_X12_laysFront_X120 zgw_X120))
set_option maxRecDepth 100000 in
theorem gX12_laysFront_X12_passes : GoodIn wsX12_laysFront (wsV RX12 443 RX12 yX12_passes wsX12_passes) := goodIn_app (goodIn_r _ [30, 31, 32, 9] rfl (by decide +kernel)) ggX12_laysFront_X12_passes
set_option maxRecDepth 100000 in
theorem ggX12_laysFront_X12_costTried : GoodIn wsX12_laysFront wsX12_costTried := goodIn_hd (goodIn_c zc_wsX12_laysFront_in [(3, 23)] rfl (by decide +kernel)) (goodIn_app (goodIn_c zc_wsX12_laysFront_in [(4, 0), (0, 21), (4, 1), (0, 22), (4, 2), (4, 3), (4, 4), (0, 8), (4, 5), (2, 5), (2, 4), (4, 6), (4, 7), (4, 8), (4, 9)] rfl (by decide +kernel)) (goodIn_sub zB_X12_laysFront_X120 zgw_X120))
set_option maxRecDepth 100000 in
theorem gX12_laysFront_X12_costTried : GoodIn wsX12_laysFront (wsV RX12 449 RX12 yX12_costTried wsX12_costTried) := goodIn_app (goodIn_r _ [93, 94, 95, 9] rfl (by decide +kernel)) ggX12_laysFront_X12_costTried
set_option maxRecDepth 100000 in
theorem ggX12_laysFront_X12_laysCouple : GoodIn wsX12_laysFront wsX12_laysCouple := goodIn_hd (goodIn_c zc_wsX12_laysFront_in [(4, 13)] rfl (by decide +kernel)) (goodIn_app (goodIn_c zc_wsX12_laysFront_in [(0, 0), (0, 3), (0, 2), (0, 4)] rfl (by decide +kernel)) (goodIn_sub zB_X12_laysFront_X120 zgw_X120))
set_option maxRecDepth 100000 in
theorem gX12_laysFront_X12_laysCouple : GoodIn wsX12_laysFront (wsV RX12 501 RX12 yX12_laysCouple wsX12_laysCouple) := goodIn_app (goodIn_r _ [107, 108, 109, 9] rfl (by decide +kernel)) ggX12_laysFront_X12_laysCouple
noncomputable def zc_wsX12_front : List (List Cond) := [wsX12_front_r1, wsX12_front_r2, wsX12_front_r3, wsX12_front_r4, wsX12_front_r5, wsX12_front_r6, wsX120]
set_option maxRecDepth 20000 in
theorem zc_wsX12_front_in : ∀ l ∈ zc_wsX12_front, ∀ w ∈ l, w ∈ wsX12_front := by
  intro l hl
  unfold zc_wsX12_front at hl
  rcases List.mem_cons.mp hl with e | hl
  · rw [e]
    exact fun w h => List.mem_cons_of_mem _ (List.mem_append_left _ (List.mem_append_left _ h))
  rcases List.mem_cons.mp hl with e | hl
  · rw [e]
    exact fun w h => List.mem_cons_of_mem _ (List.mem_append_left _ (List.mem_append_right _ (List.mem_append_left _ h)))
  rcases List.mem_cons.mp hl with e | hl
  · rw [e]
    exact fun w h => List.mem_cons_of_mem _ (List.mem_append_left _ (List.mem_append_right _ (List.mem_append_right _ (List.mem_append_left _ h))))
  rcases List.mem_cons.mp hl with e | hl
  · rw [e]
    exact fun w h => List.mem_cons_of_mem _ (List.mem_append_left _ (List.mem_append_right _ (List.mem_append_right _ (List.mem_append_right _ (List.mem_append_left _ h)))))
  rcases List.mem_cons.mp hl with e | hl
  · rw [e]
    exact fun w h => List.mem_cons_of_mem _ (List.mem_append_left _ (List.mem_append_right _ (List.mem_append_right _ (List.mem_append_right _ (List.mem_append_right _ (List.mem_append_left _ h))))))
  rcases List.mem_cons.mp hl with e | hl
  · rw [e]
    exact fun w h => List.mem_cons_of_mem _ (List.mem_append_left _ (List.mem_append_right _ (List.mem_append_right _ (List.mem_append_right _ (List.mem_append_right _ (List.mem_append_right _ h))))))
  rcases List.mem_cons.mp hl with e | hl
  · rw [e]
    exact fun w h => List.mem_cons_of_mem _ (List.mem_append_right _ h)
  cases hl
theorem zB_X12_front_X120 : ∀ w ∈ wsX120, w ∈ wsX12_front := fun _ h => List.mem_cons_of_mem _ (List.mem_append_right _ h)
set_option maxRecDepth 100000 in
theorem ggX12_front_X12_isAnswer : GoodIn wsX12_front wsX12_isAnswer := goodIn_hd (goodIn_c zc_wsX12_front_in [(0, 10)] rfl (by decide +kernel)) (goodIn_app (goodIn_c zc_wsX12_front_in [(0, 11), (0, 12), (0, 13), (0, 14), (0, 9), (0, 15), (0, 16), (0, 17), (0, 18), (0, 19)] rfl (by decide +kernel)) (goodIn_sub zB_X12_front_X120 zgw_X120))
set_option maxRecDepth 100000 in
theorem gX12_front_X12_isAnswer : GoodIn wsX12_front (wsV RX12 455 RX12 yX12_isAnswer wsX12_isAnswer) := goodIn_app (goodIn_r _ [7, 8, 9, 10] rfl (by decide +kernel)) ggX12_front_X12_isAnswer
set_option maxRecDepth 100000 in
theorem ggX12_front_X12_canSearch : GoodIn wsX12_front wsX12_canSearch := goodIn_hd (goodIn_c zc_wsX12_front_in [(0, 23)] rfl (by decide +kernel)) (goodIn_app (goodIn_c zc_wsX12_front_in [(1, 0), (0, 16), (1, 1), (1, 2), (1, 3), (1, 4), (1, 5), (0, 9), (1, 6), (1, 7), (1, 8), (1, 9), (1, 10), (1, 11), (1, 12), (1, 13)] rfl (by decide +kernel)) (goodIn_sub zB_X12_front_X120 zgw_X120))
set_option maxRecDepth 100000 in
theorem gX12_front_X12_canSearch : GoodIn wsX12_front (wsV RX12 471 RX12 yX12_canSearch wsX12_canSearch) := goodIn_app (goodIn_r _ [21, 22, 23, 10] rfl (by decide +kernel)) ggX12_front_X12_canSearch
set_option maxRecDepth 100000 in
theorem ggX12_front_X12_isIn : GoodIn wsX12_front wsX12_isIn := goodIn_r _ [20] rfl (by decide +kernel)
set_option maxRecDepth 100000 in
theorem gX12_front_X12_isIn : GoodIn wsX12_front (va_wsS RX12 263 yX12_isIn wsX12_isIn) := goodIn_app (goodIn_r _ [18, 19, 10] rfl (by decide +kernel)) ggX12_front_X12_isIn
set_option maxRecDepth 100000 in
theorem ggX12_front_X12_laysFront : GoodIn wsX12_front wsX12_laysFront := goodIn_hd (goodIn_c zc_wsX12_front_in [(1, 17)] rfl (by decide +kernel)) (goodIn_app (goodIn_app (goodIn_c zc_wsX12_front_in [(0, 2), (1, 18), (0, 4), (0, 3), (0, 5), (1, 19), (1, 20), (1, 21), (0, 9), (1, 22), (1, 2), (1, 23), (2, 0), (2, 1), (2, 2), (2, 3), (1, 8), (2, 4), (2, 5), (2, 6), (2, 7), (0, 16), (2, 8), (2, 9)] rfl (by decide +kernel)) (goodIn_app (goodIn_c zc_wsX12_front_in [(2, 10), (2, 11), (2, 12), (2, 13), (1, 7), (2, 14), (2, 15), (2, 16), (2, 17), (2, 18), (2, 19), (2, 20), (0, 11), (2, 21), (2, 22), (2, 23), (3, 0), (3, 1), (1, 0), (3, 2), (3, 3), (3, 4), (3, 5), (3, 6)] rfl (by decide +kernel)) (goodIn_app (goodIn_c zc_wsX12_front_in [(3, 7), (3, 8), (3, 9), (3, 10), (3, 11), (3, 12), (3, 13), (3, 14), (3, 15), (3, 16), (3, 17), (3, 18), (3, 19), (3, 20), (3, 21), (3, 22), (0, 0), (3, 23), (4, 0), (4, 1), (4, 2), (4, 3), (4, 4), (4, 5)] rfl (by decide +kernel)) (goodIn_app (goodIn_c zc_wsX12_front_in [(4, 6), (4, 7), (4, 8), (4, 9), (4, 10), (4, 11), (4, 12), (4, 13), (4, 14), (4, 15), (4, 16), (4, 17), (4, 18), (4, 19), (4, 20), (4, 21), (4, 22), (4, 23), (5, 0), (5, 1), (5, 2), (5, 3), (5, 4), (5, 5)] rfl (by decide +kernel)) (goodIn_c zc_wsX12_front_in [(5, 6), (5, 7), (5, 8), (5, 9), (5, 10), (5, 11), (5, 12), (5, 13), (5, 14), (5, 15), (5, 16), (5, 17), (5, 18), (5, 19)] rfl (by decide +kernel)))))) (goodIn_sub zB_X12_front_X120 zgw_X120))
set_option maxRecDepth 100000 in
theorem gX12_front_X12_laysFront : GoodIn wsX12_front (wsV RX12 505 RX12 yX12_laysFront wsX12_laysFront) := goodIn_app (goodIn_r _ [39, 40, 41, 10] rfl (by decide +kernel)) ggX12_front_X12_laysFront
noncomputable def zc_wsX12_least : List (List Cond) := [wsX12_least_r1, wsX12_least_r2, wsX12_least_r3, wsX12_least_r4, wsX12_least_r5, wsX12_least_r6, wsX120]
set_option maxRecDepth 20000 in
theorem zc_wsX12_least_in : ∀ l ∈ zc_wsX12_least, ∀ w ∈ l, w ∈ wsX12_least := by
  intro l hl
  unfold zc_wsX12_least at hl
  rcases List.mem_cons.mp hl with e | hl
  · rw [e]
    exact fun w h => List.mem_cons_of_mem _ (List.mem_append_left _ (List.mem_append_left _ h))
  rcases List.mem_cons.mp hl with e | hl
  · rw [e]
    exact fun w h => List.mem_cons_of_mem _ (List.mem_append_left _ (List.mem_append_right _ (List.mem_append_left _ h)))
  rcases List.mem_cons.mp hl with e | hl
  · rw [e]
    exact fun w h => List.mem_cons_of_mem _ (List.mem_append_left _ (List.mem_append_right _ (List.mem_append_right _ (List.mem_append_left _ h))))
  rcases List.mem_cons.mp hl with e | hl
  · rw [e]
    exact fun w h => List.mem_cons_of_mem _ (List.mem_append_left _ (List.mem_append_right _ (List.mem_append_right _ (List.mem_append_right _ (List.mem_append_left _ h)))))
  rcases List.mem_cons.mp hl with e | hl
  · rw [e]
    exact fun w h => List.mem_cons_of_mem _ (List.mem_append_left _ (List.mem_append_right _ (List.mem_append_right _ (List.mem_append_right _ (List.mem_append_right _ (List.mem_append_left _ h))))))
  rcases List.mem_cons.mp hl with e | hl
  · rw [e]
    exact fun w h => List.mem_cons_of_mem _ (List.mem_append_left _ (List.mem_append_right _ (List.mem_append_right _ (List.mem_append_right _ (List.mem_append_right _ (List.mem_append_right _ h))))))
  rcases List.mem_cons.mp hl with e | hl
  · rw [e]
    exact fun w h => List.mem_cons_of_mem _ (List.mem_append_right _ h)
  cases hl
theorem zB_X12_least_X120 : ∀ w ∈ wsX120, w ∈ wsX12_least := fun _ h => List.mem_cons_of_mem _ (List.mem_append_right _ h)
set_option maxRecDepth 100000 in
theorem ggX12_least_X12_isAnswer : GoodIn wsX12_least wsX12_isAnswer := goodIn_hd (goodIn_c zc_wsX12_least_in [(0, 6)] rfl (by decide +kernel)) (goodIn_app (goodIn_c zc_wsX12_least_in [(0, 7), (0, 8), (0, 9), (0, 10), (0, 5), (0, 11), (0, 12), (0, 13), (0, 14), (0, 15)] rfl (by decide +kernel)) (goodIn_sub zB_X12_least_X120 zgw_X120))
set_option maxRecDepth 100000 in
theorem gX12_least_X12_isAnswer : GoodIn wsX12_least (wsV RX12 455 RX12 yX12_isAnswer wsX12_isAnswer) := goodIn_app (goodIn_r _ [3, 4, 5, 6] rfl (by decide +kernel)) ggX12_least_X12_isAnswer
set_option maxRecDepth 100000 in
theorem ggX12_least_X12_canSearch : GoodIn wsX12_least wsX12_canSearch := goodIn_hd (goodIn_c zc_wsX12_least_in [(0, 19)] rfl (by decide +kernel)) (goodIn_app (goodIn_c zc_wsX12_least_in [(0, 20), (0, 12), (0, 21), (0, 22), (0, 23), (1, 0), (1, 1), (0, 5), (1, 2), (1, 3), (1, 4), (1, 5), (1, 6), (1, 7), (1, 8), (1, 9)] rfl (by decide +kernel)) (goodIn_sub zB_X12_least_X120 zgw_X120))
set_option maxRecDepth 100000 in
theorem gX12_least_X12_canSearch : GoodIn wsX12_least (wsV RX12 471 RX12 yX12_canSearch wsX12_canSearch) := goodIn_app (goodIn_r _ [17, 18, 19, 6] rfl (by decide +kernel)) ggX12_least_X12_canSearch
set_option maxRecDepth 100000 in
theorem ggX12_least_X12_allChoices : GoodIn wsX12_least wsX12_allChoices := goodIn_hd (goodIn_c zc_wsX12_least_in [(1, 13)] rfl (by decide +kernel)) (goodIn_app (goodIn_c zc_wsX12_least_in [(0, 22), (1, 14)] rfl (by decide +kernel)) (goodIn_sub zB_X12_least_X120 zgw_X120))
set_option maxRecDepth 100000 in
theorem gX12_least_X12_allChoices : GoodIn wsX12_least (wsV RX12 465 RX12 yX12_allChoices wsX12_allChoices) := goodIn_app (goodIn_r _ [35, 36, 37, 6] rfl (by decide +kernel)) ggX12_least_X12_allChoices
set_option maxRecDepth 100000 in
theorem ggX12_least_X12_triesChoice : GoodIn wsX12_least wsX12_triesChoice := goodIn_hd (goodIn_c zc_wsX12_least_in [(1, 18)] rfl (by decide +kernel)) (goodIn_app (goodIn_c zc_wsX12_least_in [(0, 22), (1, 4), (1, 14), (1, 19), (1, 20), (1, 21), (0, 5), (1, 22), (0, 12), (1, 23), (2, 0), (2, 1), (2, 2), (2, 3), (2, 4), (1, 3)] rfl (by decide +kernel)) (goodIn_sub zB_X12_least_X120 zgw_X120))
set_option maxRecDepth 100000 in
theorem gX12_least_X12_triesChoice : GoodIn wsX12_least (wsV RX12 468 RX12 yX12_triesChoice wsX12_triesChoice) := goodIn_app (goodIn_r _ [40, 41, 42, 6] rfl (by decide +kernel)) ggX12_least_X12_triesChoice
set_option maxRecDepth 100000 in
theorem ggX12_least_X12_costTried : GoodIn wsX12_least wsX12_costTried := goodIn_hd (goodIn_c zc_wsX12_least_in [(2, 8)] rfl (by decide +kernel)) (goodIn_app (goodIn_c zc_wsX12_least_in [(2, 9), (0, 12), (2, 10), (1, 23), (2, 11), (2, 12), (2, 13), (0, 5), (2, 14), (2, 15), (2, 16), (2, 17), (2, 18), (2, 19), (2, 20)] rfl (by decide +kernel)) (goodIn_sub zB_X12_least_X120 zgw_X120))
set_option maxRecDepth 100000 in
theorem gX12_least_X12_costTried : GoodIn wsX12_least (wsV RX12 449 RX12 yX12_costTried wsX12_costTried) := goodIn_app (goodIn_r _ [54, 55, 56, 6] rfl (by decide +kernel)) ggX12_least_X12_costTried
set_option maxRecDepth 100000 in
theorem ggX12_least_X12_passes : GoodIn wsX12_least wsX12_passes := goodIn_hd (goodIn_c zc_wsX12_least_in [(3, 0)] rfl (by decide +kernel)) (goodIn_app (goodIn_app (goodIn_c zc_wsX12_least_in [(3, 1), (3, 2), (0, 12), (0, 1), (3, 3), (1, 23), (0, 7), (3, 4), (3, 5), (3, 6), (0, 5), (3, 7), (3, 8), (0, 20), (3, 9), (3, 10), (3, 11), (3, 12), (3, 13), (3, 14), (3, 15), (3, 16), (3, 17), (2, 16)] rfl (by decide +kernel)) (goodIn_app (goodIn_c zc_wsX12_least_in [(2, 15), (3, 18), (3, 19), (3, 20), (3, 21), (3, 22), (3, 23), (4, 0), (4, 1), (4, 2), (4, 3), (4, 4), (4, 5), (4, 6), (4, 7), (4, 8), (4, 9), (4, 10), (4, 11), (4, 12), (4, 13), (4, 14), (4, 15), (4, 16)] rfl (by decide +kernel)) (goodIn_c zc_wsX12_least_in [(4, 17), (4, 18), (4, 19), (4, 20), (4, 21), (4, 22), (4, 23), (5, 0), (5, 1), (5, 2), (5, 3), (5, 4), (5, 5), (5, 6), (5, 7)] rfl (by decide +kernel)))) (goodIn_sub zB_X12_least_X120 zgw_X120))
set_option maxRecDepth 100000 in
theorem gX12_least_X12_passes : GoodIn wsX12_least (wsV RX12 443 RX12 yX12_passes wsX12_passes) := goodIn_app (goodIn_r _ [70, 71, 72, 6] rfl (by decide +kernel)) ggX12_least_X12_passes
set_option maxRecDepth 100000 in
theorem ggX12_least_X12_lesser : GoodIn wsX12_least wsX12_lesser := goodIn_r _ [109] rfl (by decide +kernel)
set_option maxRecDepth 100000 in
theorem gX12_least_X12_lesser : GoodIn wsX12_least (va_wsS RX12 322 yX12_lesser wsX12_lesser) := goodIn_app (goodIn_r _ [107, 108, 6] rfl (by decide +kernel)) ggX12_least_X12_lesser
noncomputable def zc_wsX12_certificate : List (List Cond) := [wsX12_certificate_r1, wsX12_certificate_r2, wsX12_certificate_r3, wsX12_certificate_r4, wsX120]
set_option maxRecDepth 20000 in
theorem zc_wsX12_certificate_in : ∀ l ∈ zc_wsX12_certificate, ∀ w ∈ l, w ∈ wsX12_certificate := by
  intro l hl
  unfold zc_wsX12_certificate at hl
  rcases List.mem_cons.mp hl with e | hl
  · rw [e]
    exact fun w h => List.mem_cons_of_mem _ (List.mem_append_left _ (List.mem_append_left _ h))
  rcases List.mem_cons.mp hl with e | hl
  · rw [e]
    exact fun w h => List.mem_cons_of_mem _ (List.mem_append_left _ (List.mem_append_right _ (List.mem_append_left _ h)))
  rcases List.mem_cons.mp hl with e | hl
  · rw [e]
    exact fun w h => List.mem_cons_of_mem _ (List.mem_append_left _ (List.mem_append_right _ (List.mem_append_right _ (List.mem_append_left _ h))))
  rcases List.mem_cons.mp hl with e | hl
  · rw [e]
    exact fun w h => List.mem_cons_of_mem _ (List.mem_append_left _ (List.mem_append_right _ (List.mem_append_right _ (List.mem_append_right _ h))))
  rcases List.mem_cons.mp hl with e | hl
  · rw [e]
    exact fun w h => List.mem_cons_of_mem _ (List.mem_append_right _ h)
  cases hl
theorem zB_X12_certificate_X120 : ∀ w ∈ wsX120, w ∈ wsX12_certificate := fun _ h => List.mem_cons_of_mem _ (List.mem_append_right _ h)
set_option maxRecDepth 100000 in
theorem ggX12_certificate_X12_handPasses : GoodIn wsX12_certificate wsX12_handPasses := goodIn_hd (goodIn_c zc_wsX12_certificate_in [(0, 9)] rfl (by decide +kernel)) (goodIn_app (goodIn_app (goodIn_c zc_wsX12_certificate_in [(0, 10), (0, 11), (0, 0), (0, 12), (0, 13), (0, 14), (0, 8), (0, 15), (0, 16), (0, 1), (0, 17), (0, 18), (0, 19), (0, 20), (0, 21), (0, 22), (0, 4), (0, 23), (1, 0), (1, 1), (1, 2), (1, 3), (1, 4), (1, 5)] rfl (by decide +kernel)) (goodIn_app (goodIn_c zc_wsX12_certificate_in [(1, 6), (0, 2), (1, 7), (0, 3), (1, 8), (1, 9), (1, 10), (1, 11), (1, 12), (1, 13), (1, 14), (1, 15), (1, 16), (1, 17), (1, 18), (1, 19), (1, 20), (1, 21), (1, 22), (1, 23), (2, 0), (2, 1), (2, 2), (2, 3)] rfl (by decide +kernel)) (goodIn_app (goodIn_c zc_wsX12_certificate_in [(2, 4), (2, 5), (2, 6), (2, 7), (2, 8), (2, 9), (2, 10), (2, 11), (2, 12), (2, 13), (2, 14), (2, 15), (2, 16), (2, 17), (2, 18), (2, 19), (2, 20), (2, 21), (2, 22), (2, 23), (3, 0), (3, 1), (3, 2), (3, 3)] rfl (by decide +kernel)) (goodIn_c zc_wsX12_certificate_in [(3, 4)] rfl (by decide +kernel))))) (goodIn_sub zB_X12_certificate_X120 zgw_X120))
set_option maxRecDepth 100000 in
theorem gX12_certificate_X12_handPasses : GoodIn wsX12_certificate (wsV RX12 452 RX12 yX12_handPasses wsX12_handPasses) := goodIn_app (goodIn_r _ [6, 7, 8, 9] rfl (by decide +kernel)) ggX12_certificate_X12_handPasses
set_option maxRecDepth 100000 in
theorem ggX12_certificate_X12_isIn : GoodIn wsX12_certificate wsX12_isIn := goodIn_r _ [80] rfl (by decide +kernel)
set_option maxRecDepth 100000 in
theorem gX12_certificate_X12_isIn : GoodIn wsX12_certificate (va_wsS RX12 263 yX12_isIn wsX12_isIn) := goodIn_app (goodIn_r _ [78, 79, 9] rfl (by decide +kernel)) ggX12_certificate_X12_isIn
set_option maxRecDepth 100000 in
theorem ggX12_certificate_X12_byteOf : GoodIn wsX12_certificate wsX12_byteOf := goodIn_r _ [83, 84] rfl (by decide +kernel)
set_option maxRecDepth 100000 in
theorem gX12_certificate_X12_byteOf : GoodIn wsX12_certificate (va_wsS RX12 510 yX12_byteOf wsX12_byteOf) := goodIn_app (goodIn_r _ [81, 82, 9] rfl (by decide +kernel)) ggX12_certificate_X12_byteOf
theorem zB_X12_isFormatSaid_X120 : ∀ w ∈ wsX120, w ∈ wsX12_isFormatSaid := fun _ h => List.mem_cons_of_mem _ (List.mem_append_right _ h)
set_option maxRecDepth 100000 in
theorem ggX12_isFormatSaid_X12_isFormat : GoodIn wsX12_isFormatSaid wsX12_isFormat := goodIn_hd (goodIn_r _ [9] rfl (by decide +kernel)) (goodIn_app (goodIn_r _ [10, 11, 12, 8, 13] rfl (by decide +kernel)) (goodIn_sub zB_X12_isFormatSaid_X120 zgw_X120))
set_option maxRecDepth 100000 in
theorem gX12_isFormatSaid_X12_isFormat : GoodIn wsX12_isFormatSaid (wsV RX12 370 RX12 yX12_isFormat wsX12_isFormat) := goodIn_app (goodIn_r _ [5, 6, 7, 8] rfl (by decide +kernel)) ggX12_isFormatSaid_X12_isFormat
noncomputable def zc_wsX12_breaks : List (List Cond) := [wsX12_breaks_r1, wsX12_breaks_r2, wsX12_breaks_r3, wsX12_breaks_r4, wsX120]
set_option maxRecDepth 20000 in
theorem zc_wsX12_breaks_in : ∀ l ∈ zc_wsX12_breaks, ∀ w ∈ l, w ∈ wsX12_breaks := by
  intro l hl
  unfold zc_wsX12_breaks at hl
  rcases List.mem_cons.mp hl with e | hl
  · rw [e]
    exact fun w h => List.mem_cons_of_mem _ (List.mem_append_left _ (List.mem_append_left _ h))
  rcases List.mem_cons.mp hl with e | hl
  · rw [e]
    exact fun w h => List.mem_cons_of_mem _ (List.mem_append_left _ (List.mem_append_right _ (List.mem_append_left _ h)))
  rcases List.mem_cons.mp hl with e | hl
  · rw [e]
    exact fun w h => List.mem_cons_of_mem _ (List.mem_append_left _ (List.mem_append_right _ (List.mem_append_right _ (List.mem_append_left _ h))))
  rcases List.mem_cons.mp hl with e | hl
  · rw [e]
    exact fun w h => List.mem_cons_of_mem _ (List.mem_append_left _ (List.mem_append_right _ (List.mem_append_right _ (List.mem_append_right _ h))))
  rcases List.mem_cons.mp hl with e | hl
  · rw [e]
    exact fun w h => List.mem_cons_of_mem _ (List.mem_append_right _ h)
  cases hl
theorem zB_X12_breaks_X120 : ∀ w ∈ wsX120, w ∈ wsX12_breaks := fun _ h => List.mem_cons_of_mem _ (List.mem_append_right _ h)
set_option maxRecDepth 100000 in
theorem ggX12_breaks_X12_isFormatSaid : GoodIn wsX12_breaks wsX12_isFormatSaid := goodIn_hd (goodIn_c zc_wsX12_breaks_in [(0, 14)] rfl (by decide +kernel)) (goodIn_app (goodIn_c zc_wsX12_breaks_in [(0, 1), (0, 15), (0, 16), (0, 17), (0, 18), (0, 19), (0, 20), (0, 13), (0, 21), (0, 22), (0, 23), (1, 0), (1, 1)] rfl (by decide +kernel)) (goodIn_sub zB_X12_breaks_X120 zgw_X120))
set_option maxRecDepth 100000 in
theorem gX12_breaks_X12_isFormatSaid : GoodIn wsX12_breaks (wsV RX12 518 RX12 yX12_isFormatSaid wsX12_isFormatSaid) := goodIn_app (goodIn_r _ [11, 12, 13, 14] rfl (by decide +kernel)) ggX12_breaks_X12_isFormatSaid
set_option maxRecDepth 100000 in
theorem ggX12_breaks_X12_laysRange : GoodIn wsX12_breaks wsX12_laysRange := goodIn_hd (goodIn_c zc_wsX12_breaks_in [(1, 5)] rfl (by decide +kernel)) (goodIn_app (goodIn_app (goodIn_c zc_wsX12_breaks_in [(1, 6), (1, 7), (1, 8), (0, 3), (1, 9), (0, 5), (1, 10), (1, 11), (1, 12), (1, 13), (0, 13), (1, 14), (1, 15), (1, 16), (1, 17), (1, 18), (1, 19), (1, 20), (1, 21), (1, 22), (1, 23), (2, 0), (2, 1), (2, 2)] rfl (by decide +kernel)) (goodIn_c zc_wsX12_breaks_in [(2, 3), (2, 4), (2, 5), (2, 6), (2, 7), (2, 8), (2, 9), (2, 10), (2, 11), (2, 12), (2, 13), (2, 14)] rfl (by decide +kernel))) (goodIn_sub zB_X12_breaks_X120 zgw_X120))
set_option maxRecDepth 100000 in
theorem gX12_breaks_X12_laysRange : GoodIn wsX12_breaks (wsV RX12 417 RX12 yX12_laysRange wsX12_laysRange) := goodIn_app (goodIn_r _ [27, 28, 29, 14] rfl (by decide +kernel)) ggX12_breaks_X12_laysRange
set_option maxRecDepth 100000 in
theorem ggX12_breaks_X12_laysError : GoodIn wsX12_breaks wsX12_laysError := goodIn_hd (goodIn_c zc_wsX12_breaks_in [(2, 18)] rfl (by decide +kernel)) (goodIn_app (goodIn_app (goodIn_c zc_wsX12_breaks_in [(2, 19), (0, 0), (2, 3), (1, 6), (0, 7), (2, 4), (2, 20), (2, 21), (2, 22), (0, 13), (2, 23), (1, 15), (1, 16), (1, 10), (1, 9), (1, 11), (1, 12), (1, 13), (1, 14), (0, 3), (3, 0), (3, 1), (3, 2), (1, 17)] rfl (by decide +kernel)) (goodIn_c zc_wsX12_breaks_in [(1, 18), (1, 19), (1, 20), (0, 5), (2, 12), (2, 13), (2, 14), (2, 6), (2, 7), (2, 8)] rfl (by decide +kernel))) (goodIn_sub zB_X12_breaks_X120 zgw_X120))
set_option maxRecDepth 100000 in
theorem gX12_breaks_X12_laysError : GoodIn wsX12_breaks (wsV RX12 430 RX12 yX12_laysError wsX12_laysError) := goodIn_app (goodIn_r _ [64, 65, 66, 14] rfl (by decide +kernel)) ggX12_breaks_X12_laysError
set_option maxRecDepth 100000 in
theorem ggX12_breaks_X12_mostOf : GoodIn wsX12_breaks wsX12_mostOf := goodIn_hd (goodIn_c zc_wsX12_breaks_in [(3, 6)] rfl (by decide +kernel)) (goodIn_app (goodIn_c zc_wsX12_breaks_in [(0, 3), (0, 5), (3, 0), (3, 1), (0, 13), (3, 2), (2, 12), (2, 13), (2, 14)] rfl (by decide +kernel)) (goodIn_sub zB_X12_breaks_X120 zgw_X120))
set_option maxRecDepth 100000 in
theorem gX12_breaks_X12_mostOf : GoodIn wsX12_breaks (wsV RX12 420 RX12 yX12_mostOf wsX12_mostOf) := goodIn_app (goodIn_r _ [76, 77, 78, 14] rfl (by decide +kernel)) ggX12_breaks_X12_mostOf
noncomputable def zc_wsX12_check : List (List Cond) := [wsX12_check_r1, wsX12_check_r2, wsX12_check_r3, wsX12_check_r4, wsX12_check_r5, wsX120]
set_option maxRecDepth 20000 in
theorem zc_wsX12_check_in : ∀ l ∈ zc_wsX12_check, ∀ w ∈ l, w ∈ wsX12_check := by
  intro l hl
  unfold zc_wsX12_check at hl
  rcases List.mem_cons.mp hl with e | hl
  · rw [e]
    exact fun w h => List.mem_cons_of_mem _ (List.mem_append_left _ (List.mem_append_left _ h))
  rcases List.mem_cons.mp hl with e | hl
  · rw [e]
    exact fun w h => List.mem_cons_of_mem _ (List.mem_append_left _ (List.mem_append_right _ (List.mem_append_left _ h)))
  rcases List.mem_cons.mp hl with e | hl
  · rw [e]
    exact fun w h => List.mem_cons_of_mem _ (List.mem_append_left _ (List.mem_append_right _ (List.mem_append_right _ (List.mem_append_left _ h))))
  rcases List.mem_cons.mp hl with e | hl
  · rw [e]
    exact fun w h => List.mem_cons_of_mem _ (List.mem_append_left _ (List.mem_append_right _ (List.mem_append_right _ (List.mem_append_right _ (List.mem_append_left _ h)))))
  rcases List.mem_cons.mp hl with e | hl
  · rw [e]
    exact fun w h => List.mem_cons_of_mem _ (List.mem_append_left _ (List.mem_append_right _ (List.mem_append_right _ (List.mem_append_right _ (List.mem_append_right _ h)))))
  rcases List.mem_cons.mp hl with e | hl
  · rw [e]
    exact fun w h => List.mem_cons_of_mem _ (List.mem_append_right _ h)
  cases hl
theorem zB_X12_check_X120 : ∀ w ∈ wsX120, w ∈ wsX12_check := fun _ h => List.mem_cons_of_mem _ (List.mem_append_right _ h)
set_option maxRecDepth 100000 in
theorem ggX12_check_X12_isRefused : GoodIn wsX12_check wsX12_isRefused := goodIn_hd (goodIn_c zc_wsX12_check_in [(0, 14)] rfl (by decide +kernel)) (goodIn_app (goodIn_c zc_wsX12_check_in [(0, 15)] rfl (by decide +kernel)) (goodIn_sub zB_X12_check_X120 zgw_X120))
set_option maxRecDepth 100000 in
theorem gX12_check_X12_isRefused : GoodIn wsX12_check (wsV RX12 224 RX12 yX12_isRefused wsX12_isRefused) := goodIn_app (goodIn_r _ [11, 12, 13, 14] rfl (by decide +kernel)) ggX12_check_X12_isRefused
set_option maxRecDepth 100000 in
theorem ggX12_check_X12_readsLong : GoodIn wsX12_check wsX12_readsLong := goodIn_hd (goodIn_c zc_wsX12_check_in [(0, 19)] rfl (by decide +kernel)) (goodIn_app (goodIn_c zc_wsX12_check_in [(0, 6), (0, 20), (0, 21)] rfl (by decide +kernel)) (goodIn_sub zB_X12_check_X120 zgw_X120))
set_option maxRecDepth 100000 in
theorem gX12_check_X12_readsLong : GoodIn wsX12_check (wsV RX12 521 RX12 yX12_readsLong wsX12_readsLong) := goodIn_app (goodIn_r _ [17, 18, 19, 14] rfl (by decide +kernel)) ggX12_check_X12_readsLong
set_option maxRecDepth 100000 in
theorem ggX12_check_X12_breaks : GoodIn wsX12_check wsX12_breaks := goodIn_hd (goodIn_c zc_wsX12_check_in [(1, 1)] rfl (by decide +kernel)) (goodIn_app (goodIn_app (goodIn_c zc_wsX12_check_in [(1, 2), (0, 5), (0, 7), (1, 3), (0, 8), (1, 4), (0, 9), (1, 5), (1, 6), (1, 7), (1, 8), (1, 9), (1, 10), (0, 13), (1, 11), (0, 3), (1, 12), (1, 13), (1, 14), (1, 15), (1, 16), (1, 17), (1, 18), (1, 19)] rfl (by decide +kernel)) (goodIn_app (goodIn_c zc_wsX12_check_in [(1, 20), (1, 21), (1, 22), (1, 23), (2, 0), (2, 1), (2, 2), (0, 4), (2, 3), (2, 4), (2, 5), (2, 6), (2, 7), (2, 8), (2, 9), (2, 10), (2, 11), (2, 12), (2, 13), (2, 14), (2, 15), (2, 16), (2, 17), (2, 18)] rfl (by decide +kernel)) (goodIn_app (goodIn_c zc_wsX12_check_in [(2, 19), (2, 20), (2, 21), (2, 22), (2, 23), (3, 0), (3, 1), (3, 2), (3, 3), (3, 4), (3, 5), (3, 6), (3, 7), (3, 8), (3, 9), (3, 10), (3, 11), (3, 12), (3, 13), (3, 14), (3, 15), (3, 16), (3, 17), (3, 18)] rfl (by decide +kernel)) (goodIn_c zc_wsX12_check_in [(3, 19), (3, 20), (3, 21), (3, 22), (3, 23), (4, 0), (4, 1)] rfl (by decide +kernel))))) (goodIn_sub zB_X12_check_X120 zgw_X120))
set_option maxRecDepth 100000 in
theorem gX12_check_X12_breaks : GoodIn wsX12_check (wsV RX12 524 RX12 yX12_breaks wsX12_breaks) := goodIn_app (goodIn_r _ [23, 24, 25, 14] rfl (by decide +kernel)) ggX12_check_X12_breaks
set_option maxRecDepth 100000 in
theorem ggX12_castOf_X12_rounded : GoodIn wsX12_castOf wsX12_rounded := goodIn_r _ [11, 12, 13, 14, 10, 15] rfl (by decide +kernel)
set_option maxRecDepth 100000 in
theorem gX12_castOf_X12_rounded : GoodIn wsX12_castOf (va_wsS RX12 533 yX12_rounded wsX12_rounded) := goodIn_app (goodIn_r _ [8, 9, 10] rfl (by decide +kernel)) ggX12_castOf_X12_rounded
noncomputable def zc_wsX12_triesOnce : List (List Cond) := [wsX12_triesOnce_r1, wsX12_triesOnce_r2, wsX120]
set_option maxRecDepth 20000 in
theorem zc_wsX12_triesOnce_in : ∀ l ∈ zc_wsX12_triesOnce, ∀ w ∈ l, w ∈ wsX12_triesOnce := by
  intro l hl
  unfold zc_wsX12_triesOnce at hl
  rcases List.mem_cons.mp hl with e | hl
  · rw [e]
    exact fun w h => List.mem_cons_of_mem _ (List.mem_append_left _ (List.mem_append_left _ h))
  rcases List.mem_cons.mp hl with e | hl
  · rw [e]
    exact fun w h => List.mem_cons_of_mem _ (List.mem_append_left _ (List.mem_append_right _ h))
  rcases List.mem_cons.mp hl with e | hl
  · rw [e]
    exact fun w h => List.mem_cons_of_mem _ (List.mem_append_right _ h)
  cases hl
theorem zB_X12_triesOnce_X120 : ∀ w ∈ wsX120, w ∈ wsX12_triesOnce := fun _ h => List.mem_cons_of_mem _ (List.mem_append_right _ h)
set_option maxRecDepth 100000 in
theorem ggX12_triesOnce_X12_draw : GoodIn wsX12_triesOnce wsX12_draw := goodIn_hd (goodIn_c zc_wsX12_triesOnce_in [(0, 12)] rfl (by decide +kernel)) (goodIn_app (goodIn_c zc_wsX12_triesOnce_in [(0, 13), (0, 14), (0, 15), (0, 16)] rfl (by decide +kernel)) (goodIn_sub zB_X12_triesOnce_X120 zgw_X120))
set_option maxRecDepth 100000 in
theorem gX12_triesOnce_X12_draw : GoodIn wsX12_triesOnce (wsV RX12 536 RX12 yX12_draw wsX12_draw) := goodIn_app (goodIn_r _ [9, 10, 11, 12] rfl (by decide +kernel)) ggX12_triesOnce_X12_draw
set_option maxRecDepth 100000 in
theorem ggX12_triesOnce_X12_rounded : GoodIn wsX12_triesOnce wsX12_rounded := goodIn_r _ [20, 21, 22, 23, 12, 24] rfl (by decide +kernel)
set_option maxRecDepth 100000 in
theorem gX12_triesOnce_X12_rounded : GoodIn wsX12_triesOnce (va_wsS RX12 533 yX12_rounded wsX12_rounded) := goodIn_app (goodIn_r _ [18, 19, 12] rfl (by decide +kernel)) ggX12_triesOnce_X12_rounded
set_option maxRecDepth 100000 in
theorem ggX12_triesOnce_X12_exactOf : GoodIn wsX12_triesOnce wsX12_exactOf := goodIn_hd (goodIn_c zc_wsX12_triesOnce_in [(1, 3)] rfl (by decide +kernel)) (goodIn_app (goodIn_c zc_wsX12_triesOnce_in [(1, 4), (1, 5), (0, 6), (0, 5), (0, 4)] rfl (by decide +kernel)) (goodIn_sub zB_X12_triesOnce_X120 zgw_X120))
set_option maxRecDepth 100000 in
theorem gX12_triesOnce_X12_exactOf : GoodIn wsX12_triesOnce (wsV RX12 539 RX12 yX12_exactOf wsX12_exactOf) := goodIn_app (goodIn_r _ [25, 26, 27, 12] rfl (by decide +kernel)) ggX12_triesOnce_X12_exactOf
set_option maxRecDepth 100000 in
theorem ggX12_triesOnce_X12_two : GoodIn wsX12_triesOnce wsX12_two := goodIn_r _ [33, 34, 35, 12, 36, 21, 37, 38, 22, 23, 24, 39, 40, 41, 42, 43, 44] rfl (by decide +kernel)
set_option maxRecDepth 100000 in
theorem gX12_triesOnce_X12_two : GoodIn wsX12_triesOnce (va_wsS RX12 406 yX12_two wsX12_two) := goodIn_app (goodIn_r _ [31, 32, 12] rfl (by decide +kernel)) ggX12_triesOnce_X12_two
set_option maxRecDepth 100000 in
theorem ggX12_triesOnce_X12_castOf : GoodIn wsX12_triesOnce wsX12_castOf := goodIn_hd (goodIn_c zc_wsX12_triesOnce_in [(1, 23)] rfl (by decide +kernel)) (goodIn_app (goodIn_c zc_wsX12_triesOnce_in [(1, 4), (1, 5), (0, 6), (0, 5), (0, 7), (0, 1), (0, 2), (0, 17), (0, 18), (0, 11), (0, 19), (0, 20), (0, 21), (0, 22), (0, 23)] rfl (by decide +kernel)) (goodIn_sub zB_X12_triesOnce_X120 zgw_X120))
set_option maxRecDepth 100000 in
theorem gX12_triesOnce_X12_castOf : GoodIn wsX12_triesOnce (wsV RX12 542 RX12 yX12_castOf wsX12_castOf) := goodIn_app (goodIn_r _ [45, 46, 47, 12] rfl (by decide +kernel)) ggX12_triesOnce_X12_castOf
set_option maxRecDepth 100000 in
theorem ggX12_trials_X12_isIn : GoodIn wsX12_trials wsX12_isIn := goodIn_r _ [7] rfl (by decide +kernel)
set_option maxRecDepth 100000 in
theorem gX12_trials_X12_isIn : GoodIn wsX12_trials (va_wsS RX12 263 yX12_isIn wsX12_isIn) := goodIn_app (goodIn_r _ [4, 5, 6] rfl (by decide +kernel)) ggX12_trials_X12_isIn
noncomputable def zc_wsX12_trials : List (List Cond) := [wsX12_trials_r1, wsX12_trials_r2, wsX12_trials_r3, wsX12_trials_r4, wsX12_trials_r5, wsX120]
set_option maxRecDepth 20000 in
theorem zc_wsX12_trials_in : ∀ l ∈ zc_wsX12_trials, ∀ w ∈ l, w ∈ wsX12_trials := by
  intro l hl
  unfold zc_wsX12_trials at hl
  rcases List.mem_cons.mp hl with e | hl
  · rw [e]
    exact fun w h => List.mem_cons_of_mem _ (List.mem_append_left _ (List.mem_append_left _ h))
  rcases List.mem_cons.mp hl with e | hl
  · rw [e]
    exact fun w h => List.mem_cons_of_mem _ (List.mem_append_left _ (List.mem_append_right _ (List.mem_append_left _ h)))
  rcases List.mem_cons.mp hl with e | hl
  · rw [e]
    exact fun w h => List.mem_cons_of_mem _ (List.mem_append_left _ (List.mem_append_right _ (List.mem_append_right _ (List.mem_append_left _ h))))
  rcases List.mem_cons.mp hl with e | hl
  · rw [e]
    exact fun w h => List.mem_cons_of_mem _ (List.mem_append_left _ (List.mem_append_right _ (List.mem_append_right _ (List.mem_append_right _ (List.mem_append_left _ h)))))
  rcases List.mem_cons.mp hl with e | hl
  · rw [e]
    exact fun w h => List.mem_cons_of_mem _ (List.mem_append_left _ (List.mem_append_right _ (List.mem_append_right _ (List.mem_append_right _ (List.mem_append_right _ h)))))
  rcases List.mem_cons.mp hl with e | hl
  · rw [e]
    exact fun w h => List.mem_cons_of_mem _ (List.mem_append_right _ h)
  cases hl
theorem zB_X12_trials_X120 : ∀ w ∈ wsX120, w ∈ wsX12_trials := fun _ h => List.mem_cons_of_mem _ (List.mem_append_right _ h)
set_option maxRecDepth 100000 in
theorem ggX12_trials_X12_isNumber : GoodIn wsX12_trials wsX12_isNumber := goodIn_hd (goodIn_c zc_wsX12_trials_in [(0, 10)] rfl (by decide +kernel)) (goodIn_app (goodIn_c zc_wsX12_trials_in [(0, 11), (0, 3), (0, 4), (0, 5), (0, 6)] rfl (by decide +kernel)) (goodIn_sub zB_X12_trials_X120 zgw_X120))
set_option maxRecDepth 100000 in
theorem gX12_trials_X12_isNumber : GoodIn wsX12_trials (wsV RX12 373 RX12 yX12_isNumber wsX12_isNumber) := goodIn_app (goodIn_r _ [8, 9, 10, 6] rfl (by decide +kernel)) ggX12_trials_X12_isNumber
set_option maxRecDepth 100000 in
theorem ggX12_trials_X12_handPasses : GoodIn wsX12_trials wsX12_handPasses := goodIn_hd (goodIn_c zc_wsX12_trials_in [(0, 15)] rfl (by decide +kernel)) (goodIn_app (goodIn_app (goodIn_c zc_wsX12_trials_in [(0, 16), (0, 17), (0, 11), (0, 18), (0, 19), (0, 20), (0, 5), (0, 21), (0, 22), (0, 23), (1, 0), (1, 1), (1, 2), (1, 3), (1, 4), (1, 5), (1, 6), (1, 7), (1, 8), (1, 9), (1, 10), (1, 11), (1, 12), (1, 13)] rfl (by decide +kernel)) (goodIn_app (goodIn_c zc_wsX12_trials_in [(1, 14), (1, 15), (1, 16), (1, 17), (1, 18), (1, 19), (1, 20), (1, 21), (1, 22), (1, 23), (2, 0), (2, 1), (2, 2), (2, 3), (2, 4), (2, 5), (2, 6), (2, 7), (2, 8), (2, 9), (2, 10), (2, 11), (2, 12), (2, 13)] rfl (by decide +kernel)) (goodIn_app (goodIn_c zc_wsX12_trials_in [(2, 14), (2, 15), (2, 16), (2, 17), (2, 18), (2, 19), (2, 20), (2, 21), (2, 22), (2, 23), (3, 0), (3, 1), (3, 2), (3, 3), (3, 4), (3, 5), (3, 6), (3, 7), (3, 8), (3, 9), (3, 10), (3, 11), (3, 12), (3, 13)] rfl (by decide +kernel)) (goodIn_c zc_wsX12_trials_in [(3, 14)] rfl (by decide +kernel))))) (goodIn_sub zB_X12_trials_X120 zgw_X120))
set_option maxRecDepth 100000 in
theorem gX12_trials_X12_handPasses : GoodIn wsX12_trials (wsV RX12 452 RX12 yX12_handPasses wsX12_handPasses) := goodIn_app (goodIn_r _ [13, 14, 15, 6] rfl (by decide +kernel)) ggX12_trials_X12_handPasses
set_option maxRecDepth 100000 in
theorem ggX12_trials_X12_refuses : GoodIn wsX12_trials wsX12_refuses := goodIn_hd (goodIn_c zc_wsX12_trials_in [(3, 18)] rfl (by decide +kernel)) (goodIn_app (goodIn_c zc_wsX12_trials_in [(3, 19)] rfl (by decide +kernel)) (goodIn_sub zB_X12_trials_X120 zgw_X120))
set_option maxRecDepth 100000 in
theorem gX12_trials_X12_refuses : GoodIn wsX12_trials (wsV RX12 216 RX12 yX12_refuses wsX12_refuses) := goodIn_app (goodIn_r _ [88, 89, 90, 6] rfl (by decide +kernel)) ggX12_trials_X12_refuses
set_option maxRecDepth 100000 in
theorem ggX12_trials_X12_triesOnce : GoodIn wsX12_trials wsX12_triesOnce := goodIn_hd (goodIn_c zc_wsX12_trials_in [(3, 23)] rfl (by decide +kernel)) (goodIn_app (goodIn_app (goodIn_c zc_wsX12_trials_in [(0, 11), (3, 3), (0, 23), (1, 13), (0, 2), (1, 16), (1, 18), (0, 1), (4, 0), (4, 1), (4, 2), (0, 5), (4, 3), (4, 4), (4, 5), (4, 6), (4, 7), (4, 8), (4, 9), (4, 10), (2, 11), (2, 14), (2, 15), (2, 16)] rfl (by decide +kernel)) (goodIn_c zc_wsX12_trials_in [(4, 11), (4, 12), (4, 13), (4, 14), (1, 23), (2, 0), (2, 5), (2, 6), (2, 7), (2, 8), (2, 9), (2, 10), (2, 12), (2, 13), (2, 17), (2, 18), (2, 19), (2, 20), (2, 21), (2, 22), (4, 15), (4, 16), (4, 17), (4, 18)] rfl (by decide +kernel))) (goodIn_sub zB_X12_trials_X120 zgw_X120))
set_option maxRecDepth 100000 in
theorem gX12_trials_X12_triesOnce : GoodIn wsX12_trials (wsV RX12 547 RX12 yX12_triesOnce wsX12_triesOnce) := goodIn_app (goodIn_r _ [93, 94, 95, 6] rfl (by decide +kernel)) ggX12_trials_X12_triesOnce
set_option maxRecDepth 100000 in
theorem ggX12_trials_X12_amount : GoodIn wsX12_trials wsX12_amount := goodIn_r _ [83] rfl (by decide +kernel)
set_option maxRecDepth 100000 in
theorem gX12_trials_X12_amount : GoodIn wsX12_trials (va_wsS RX12 410 yX12_amount wsX12_amount) := goodIn_app (goodIn_r _ [81, 82, 6] rfl (by decide +kernel)) ggX12_trials_X12_amount
set_option maxRecDepth 100000 in
theorem ggX12_trials_X12_greater : GoodIn wsX12_trials wsX12_greater := goodIn_r _ [71] rfl (by decide +kernel)
set_option maxRecDepth 100000 in
theorem gX12_trials_X12_greater : GoodIn wsX12_trials (va_wsS RX12 396 yX12_greater wsX12_greater) := goodIn_app (goodIn_r _ [69, 70, 6] rfl (by decide +kernel)) ggX12_trials_X12_greater
noncomputable def zc_wsX12_trial : List (List Cond) := [wsX12_trial_r1, wsX12_trial_r2, wsX12_trial_r3, wsX12_trial_r4, wsX12_trial_r5, wsX120]
set_option maxRecDepth 20000 in
theorem zc_wsX12_trial_in : ∀ l ∈ zc_wsX12_trial, ∀ w ∈ l, w ∈ wsX12_trial := by
  intro l hl
  unfold zc_wsX12_trial at hl
  rcases List.mem_cons.mp hl with e | hl
  · rw [e]
    exact fun w h => List.mem_cons_of_mem _ (List.mem_append_left _ (List.mem_append_left _ h))
  rcases List.mem_cons.mp hl with e | hl
  · rw [e]
    exact fun w h => List.mem_cons_of_mem _ (List.mem_append_left _ (List.mem_append_right _ (List.mem_append_left _ h)))
  rcases List.mem_cons.mp hl with e | hl
  · rw [e]
    exact fun w h => List.mem_cons_of_mem _ (List.mem_append_left _ (List.mem_append_right _ (List.mem_append_right _ (List.mem_append_left _ h))))
  rcases List.mem_cons.mp hl with e | hl
  · rw [e]
    exact fun w h => List.mem_cons_of_mem _ (List.mem_append_left _ (List.mem_append_right _ (List.mem_append_right _ (List.mem_append_right _ (List.mem_append_left _ h)))))
  rcases List.mem_cons.mp hl with e | hl
  · rw [e]
    exact fun w h => List.mem_cons_of_mem _ (List.mem_append_left _ (List.mem_append_right _ (List.mem_append_right _ (List.mem_append_right _ (List.mem_append_right _ h)))))
  rcases List.mem_cons.mp hl with e | hl
  · rw [e]
    exact fun w h => List.mem_cons_of_mem _ (List.mem_append_right _ h)
  cases hl
theorem zB_X12_trial_X120 : ∀ w ∈ wsX120, w ∈ wsX12_trial := fun _ h => List.mem_cons_of_mem _ (List.mem_append_right _ h)
set_option maxRecDepth 100000 in
theorem ggX12_trial_X12_isNumber : GoodIn wsX12_trial wsX12_isNumber := goodIn_hd (goodIn_c zc_wsX12_trial_in [(0, 8)] rfl (by decide +kernel)) (goodIn_app (goodIn_c zc_wsX12_trial_in [(0, 9), (0, 10), (0, 11), (0, 7), (0, 12)] rfl (by decide +kernel)) (goodIn_sub zB_X12_trial_X120 zgw_X120))
set_option maxRecDepth 100000 in
theorem gX12_trial_X12_isNumber : GoodIn wsX12_trial (wsV RX12 373 RX12 yX12_isNumber wsX12_isNumber) := goodIn_app (goodIn_r _ [5, 6, 7, 8] rfl (by decide +kernel)) ggX12_trial_X12_isNumber
set_option maxRecDepth 100000 in
theorem ggX12_trial_X12_handPasses : GoodIn wsX12_trial wsX12_handPasses := goodIn_hd (goodIn_c zc_wsX12_trial_in [(0, 16)] rfl (by decide +kernel)) (goodIn_app (goodIn_app (goodIn_c zc_wsX12_trial_in [(0, 17), (0, 18), (0, 9), (0, 19), (0, 20), (0, 21), (0, 7), (0, 22), (0, 23), (1, 0), (1, 1), (1, 2), (1, 3), (1, 4), (1, 5), (1, 6), (1, 7), (1, 8), (1, 9), (1, 10), (1, 11), (1, 12), (1, 13), (1, 14)] rfl (by decide +kernel)) (goodIn_app (goodIn_c zc_wsX12_trial_in [(1, 15), (1, 16), (1, 17), (1, 18), (1, 19), (1, 20), (1, 21), (1, 22), (1, 23), (2, 0), (2, 1), (2, 2), (2, 3), (2, 4), (2, 5), (2, 6), (2, 7), (2, 8), (2, 9), (2, 10), (2, 11), (2, 12), (2, 13), (2, 14)] rfl (by decide +kernel)) (goodIn_app (goodIn_c zc_wsX12_trial_in [(2, 15), (2, 16), (2, 17), (2, 18), (2, 19), (2, 20), (2, 21), (2, 22), (2, 23), (3, 0), (3, 1), (3, 2), (3, 3), (3, 4), (3, 5), (3, 6), (3, 7), (3, 8), (3, 9), (3, 10), (3, 11), (3, 12), (3, 13), (3, 14)] rfl (by decide +kernel)) (goodIn_c zc_wsX12_trial_in [(3, 15)] rfl (by decide +kernel))))) (goodIn_sub zB_X12_trial_X120 zgw_X120))
set_option maxRecDepth 100000 in
theorem gX12_trial_X12_handPasses : GoodIn wsX12_trial (wsV RX12 452 RX12 yX12_handPasses wsX12_handPasses) := goodIn_app (goodIn_r _ [14, 15, 16, 8] rfl (by decide +kernel)) ggX12_trial_X12_handPasses
set_option maxRecDepth 100000 in
theorem ggX12_trial_X12_triesOnce : GoodIn wsX12_trial wsX12_triesOnce := goodIn_hd (goodIn_c zc_wsX12_trial_in [(3, 19)] rfl (by decide +kernel)) (goodIn_app (goodIn_app (goodIn_c zc_wsX12_trial_in [(0, 9), (3, 4), (1, 0), (1, 14), (0, 3), (1, 17), (1, 19), (0, 2), (3, 20), (3, 21), (3, 22), (0, 7), (3, 23), (4, 0), (0, 1), (4, 1), (4, 2), (4, 3), (4, 4), (4, 5), (2, 12), (2, 15), (2, 16), (2, 17)] rfl (by decide +kernel)) (goodIn_c zc_wsX12_trial_in [(4, 6), (4, 7), (4, 8), (4, 9), (2, 0), (2, 1), (2, 6), (2, 7), (2, 8), (2, 9), (2, 10), (2, 11), (2, 13), (2, 14), (2, 18), (2, 19), (2, 20), (2, 21), (2, 22), (2, 23), (4, 10), (4, 11), (4, 12), (4, 13)] rfl (by decide +kernel))) (goodIn_sub zB_X12_trial_X120 zgw_X120))
set_option maxRecDepth 100000 in
theorem gX12_trial_X12_triesOnce : GoodIn wsX12_trial (wsV RX12 547 RX12 yX12_triesOnce wsX12_triesOnce) := goodIn_app (goodIn_r _ [89, 90, 91, 8] rfl (by decide +kernel)) ggX12_trial_X12_triesOnce
theorem zB_X12_seed_X120 : ∀ w ∈ wsX120, w ∈ wsX12_seed := fun _ h => List.mem_cons_of_mem _ (List.mem_append_right _ h)
set_option maxRecDepth 100000 in
theorem ggX12_seed_X12_isRefused : GoodIn wsX12_seed wsX12_isRefused := goodIn_hd (goodIn_r _ [6] rfl (by decide +kernel)) (goodIn_app (goodIn_r _ [7] rfl (by decide +kernel)) (goodIn_sub zB_X12_seed_X120 zgw_X120))
set_option maxRecDepth 100000 in
theorem gX12_seed_X12_isRefused : GoodIn wsX12_seed (wsV RX12 224 RX12 yX12_isRefused wsX12_isRefused) := goodIn_app (goodIn_r _ [2, 3, 4, 5] rfl (by decide +kernel)) ggX12_seed_X12_isRefused
set_option maxRecDepth 100000 in
theorem ggX12_status_X12_isIn : GoodIn wsX12_status wsX12_isIn := goodIn_r _ [6] rfl (by decide +kernel)
set_option maxRecDepth 100000 in
theorem gX12_status_X12_isIn : GoodIn wsX12_status (va_wsS RX12 263 yX12_isIn wsX12_isIn) := goodIn_app (goodIn_r _ [3, 4, 5] rfl (by decide +kernel)) ggX12_status_X12_isIn
