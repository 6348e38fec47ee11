theorem zB_X12_feed_X120 : ∀ w ∈ wsX120, w ∈ wsX12_feed := fun _ h => List.mem_cons_of_mem _ (List.mem_append_right _ h)
theorem zgw_X120 : wsX120.all goodWord = true := by decide +kernel
set_option maxRecDepth 100000 in
theorem ggX12_feed_X12_refuses : GoodIn wsX12_feed wsX12_refuses := goodIn_hd (goodIn_r _ [6] rfl (by decide +kernel)) (goodIn_app (goodIn_r _ [7] rfl (by decide +kernel)) (goodIn_sub zB_X12_feed_X120 zgw_X120))
set_option maxRecDepth 100000 in
theorem gX12_feed_X12_refuses : GoodIn wsX12_feed (wsV RX12 216 RX12 yX12_refuses wsX12_refuses) := goodIn_app (goodIn_r _ [2, 3, 4, 5] rfl (by decide +kernel)) ggX12_feed_X12_refuses
set_option maxRecDepth 100000 in
theorem ggX12_feed_X12_lays : GoodIn wsX12_feed wsX12_lays := goodIn_hd (goodIn_r _ [11] rfl (by decide +kernel)) (goodIn_app (goodIn_r _ [12, 1] rfl (by decide +kernel)) (goodIn_sub zB_X12_feed_X120 zgw_X120))
set_option maxRecDepth 100000 in
theorem gX12_feed_X12_lays : GoodIn wsX12_feed (wsV RX12 220 RX12 yX12_lays wsX12_lays) := goodIn_app (goodIn_r _ [8, 9, 10, 5] rfl (by decide +kernel)) ggX12_feed_X12_lays
theorem zB_X12_end_X120 : ∀ w ∈ wsX120, w ∈ wsX12_end := fun _ h => List.mem_cons_of_mem _ (List.mem_append_right _ h)
set_option maxRecDepth 100000 in
theorem ggX12_end_X12_isRefused : GoodIn wsX12_end wsX12_isRefused := goodIn_hd (goodIn_r _ [6] rfl (by decide +kernel)) (goodIn_app (goodIn_r _ [7] rfl (by decide +kernel)) (goodIn_sub zB_X12_end_X120 zgw_X120))
set_option maxRecDepth 100000 in
theorem gX12_end_X12_isRefused : GoodIn wsX12_end (wsV RX12 224 RX12 yX12_isRefused wsX12_isRefused) := goodIn_app (goodIn_r _ [2, 3, 4, 5] rfl (by decide +kernel)) ggX12_end_X12_isRefused
theorem zB_X12_isSmall_X120 : ∀ w ∈ wsX120, w ∈ wsX12_isSmall := fun _ h => List.mem_cons_of_mem _ (List.mem_append_right _ h)
set_option maxRecDepth 100000 in
theorem ggX12_isSmall_X12_byteAt : GoodIn wsX12_isSmall wsX12_byteAt := goodIn_hd (goodIn_r _ [5] rfl (by decide +kernel)) (goodIn_app (goodIn_r _ [6, 7] rfl (by decide +kernel)) (goodIn_sub zB_X12_isSmall_X120 zgw_X120))
set_option maxRecDepth 100000 in
theorem gX12_isSmall_X12_byteAt : GoodIn wsX12_isSmall (wsV RX12 228 RX12 yX12_byteAt wsX12_byteAt) := goodIn_app (goodIn_r _ [1, 2, 3, 4] rfl (by decide +kernel)) ggX12_isSmall_X12_byteAt
theorem zB_X12_isDigit_X120 : ∀ w ∈ wsX120, w ∈ wsX12_isDigit := fun _ h => List.mem_cons_of_mem _ (List.mem_append_right _ h)
set_option maxRecDepth 100000 in
theorem ggX12_isDigit_X12_byteAt : GoodIn wsX12_isDigit wsX12_byteAt := goodIn_hd (goodIn_r _ [5] rfl (by decide +kernel)) (goodIn_app (goodIn_r _ [6, 7] rfl (by decide +kernel)) (goodIn_sub zB_X12_isDigit_X120 zgw_X120))
set_option maxRecDepth 100000 in
theorem gX12_isDigit_X12_byteAt : GoodIn wsX12_isDigit (wsV RX12 228 RX12 yX12_byteAt wsX12_byteAt) := goodIn_app (goodIn_r _ [1, 2, 3, 4] rfl (by decide +kernel)) ggX12_isDigit_X12_byteAt
theorem zB_X12_here_X120 : ∀ w ∈ wsX120, w ∈ wsX12_here := fun _ h => List.mem_cons_of_mem _ (List.mem_append_right _ h)
set_option maxRecDepth 100000 in
theorem ggX12_here_X12_byteAt : GoodIn wsX12_here wsX12_byteAt := goodIn_hd (goodIn_r _ [6] rfl (by decide +kernel)) (goodIn_app (goodIn_r _ [7, 8] rfl (by decide +kernel)) (goodIn_sub zB_X12_here_X120 zgw_X120))
set_option maxRecDepth 100000 in
theorem gX12_here_X12_byteAt : GoodIn wsX12_here (wsV RX12 228 RX12 yX12_byteAt wsX12_byteAt) := goodIn_app (goodIn_r _ [2, 3, 4, 5] rfl (by decide +kernel)) ggX12_here_X12_byteAt
theorem zB_X12_mark_X120 : ∀ w ∈ wsX120, w ∈ wsX12_mark := fun _ h => List.mem_cons_of_mem _ (List.mem_append_right _ h)
set_option maxRecDepth 100000 in
theorem ggX12_mark_X12_goesWell : GoodIn wsX12_mark wsX12_goesWell := goodIn_hd (goodIn_r _ [6] rfl (by decide +kernel)) (goodIn_app (goodIn_r _ [7] rfl (by decide +kernel)) (goodIn_sub zB_X12_mark_X120 zgw_X120))
set_option maxRecDepth 100000 in
theorem gX12_mark_X12_goesWell : GoodIn wsX12_mark (wsV RX12 231 RX12 yX12_goesWell wsX12_goesWell) := goodIn_app (goodIn_r _ [2, 3, 4, 5] rfl (by decide +kernel)) ggX12_mark_X12_goesWell
set_option maxRecDepth 100000 in
theorem ggX12_mark_X12_here : GoodIn wsX12_mark wsX12_here := goodIn_hd (goodIn_r _ [11] rfl (by decide +kernel)) (goodIn_app (goodIn_r _ [1, 12, 13, 14, 5, 15, 16, 17] rfl (by decide +kernel)) (goodIn_sub zB_X12_mark_X120 zgw_X120))
set_option maxRecDepth 100000 in
theorem gX12_mark_X12_here : GoodIn wsX12_mark (wsV RX12 235 RX12 yX12_here wsX12_here) := goodIn_app (goodIn_r _ [8, 9, 10, 5] rfl (by decide +kernel)) ggX12_mark_X12_here
set_option maxRecDepth 100000 in
theorem ggX12_mark_X12_faults : GoodIn wsX12_mark wsX12_faults := goodIn_hd (goodIn_r _ [21] rfl (by decide +kernel)) (goodIn_app (goodIn_r _ [7, 22] rfl (by decide +kernel)) (goodIn_sub zB_X12_mark_X120 zgw_X120))
set_option maxRecDepth 100000 in
theorem gX12_mark_X12_faults : GoodIn wsX12_mark (wsV RX12 239 RX12 yX12_faults wsX12_faults) := goodIn_app (goodIn_r _ [18, 19, 20, 5] rfl (by decide +kernel)) ggX12_mark_X12_faults
noncomputable def zc_wsX12_word : List (List Cond) := [wsX12_word_r1, wsX12_word_r2, wsX120]
set_option maxRecDepth 20000 in
theorem zc_wsX12_word_in : ∀ l ∈ zc_wsX12_word, ∀ w ∈ l, w ∈ wsX12_word := by
  intro l hl
  unfold zc_wsX12_word at hl
  rcases List.mem_cons.mp hl with e | hl
  · rw [e]
    exact fun w h => List.mem_cons_of_mem _ (List.mem_append_left _ (List.mem_append_left _ h))
  rcases List.mem_cons.mp hl with e | hl
  · rw [e]
    exact fun w h => List.mem_cons_of_mem _ (List.mem_append_left _ (List.mem_append_right _ h))
  rcases List.mem_cons.mp hl with e | hl
  · rw [e]
    exact fun w h => List.mem_cons_of_mem _ (List.mem_append_right _ h)
  cases hl
theorem zB_X12_word_X120 : ∀ w ∈ wsX120, w ∈ wsX12_word := fun _ h => List.mem_cons_of_mem _ (List.mem_append_right _ h)
set_option maxRecDepth 100000 in
theorem ggX12_word_X12_goesWell : GoodIn wsX12_word wsX12_goesWell := goodIn_hd (goodIn_c zc_wsX12_word_in [(0, 6)] rfl (by decide +kernel)) (goodIn_app (goodIn_c zc_wsX12_word_in [(0, 7)] rfl (by decide +kernel)) (goodIn_sub zB_X12_word_X120 zgw_X120))
set_option maxRecDepth 100000 in
theorem gX12_word_X12_goesWell : GoodIn wsX12_word (wsV RX12 231 RX12 yX12_goesWell wsX12_goesWell) := goodIn_app (goodIn_r _ [3, 4, 5, 6] rfl (by decide +kernel)) ggX12_word_X12_goesWell
set_option maxRecDepth 100000 in
theorem ggX12_word_X12_here : GoodIn wsX12_word wsX12_here := goodIn_hd (goodIn_c zc_wsX12_word_in [(0, 11)] rfl (by decide +kernel)) (goodIn_app (goodIn_c zc_wsX12_word_in [(0, 0), (0, 12), (0, 13), (0, 14), (0, 5), (0, 15), (0, 16), (0, 17)] rfl (by decide +kernel)) (goodIn_sub zB_X12_word_X120 zgw_X120))
set_option maxRecDepth 100000 in
theorem gX12_word_X12_here : GoodIn wsX12_word (wsV RX12 235 RX12 yX12_here wsX12_here) := goodIn_app (goodIn_r _ [9, 10, 11, 6] rfl (by decide +kernel)) ggX12_word_X12_here
set_option maxRecDepth 100000 in
theorem ggX12_word_X12_isSmall : GoodIn wsX12_word wsX12_isSmall := goodIn_hd (goodIn_c zc_wsX12_word_in [(0, 21)] rfl (by decide +kernel)) (goodIn_app (goodIn_c zc_wsX12_word_in [(0, 12), (0, 13), (0, 14), (0, 5), (0, 15), (0, 16), (0, 17)] rfl (by decide +kernel)) (goodIn_sub zB_X12_word_X120 zgw_X120))
set_option maxRecDepth 100000 in
theorem gX12_word_X12_isSmall : GoodIn wsX12_word (wsV RX12 243 RX12 yX12_isSmall wsX12_isSmall) := goodIn_app (goodIn_r _ [19, 20, 21, 6] rfl (by decide +kernel)) ggX12_word_X12_isSmall
set_option maxRecDepth 100000 in
theorem ggX12_word_X12_isDigit : GoodIn wsX12_word wsX12_isDigit := goodIn_hd (goodIn_c zc_wsX12_word_in [(1, 1)] rfl (by decide +kernel)) (goodIn_app (goodIn_c zc_wsX12_word_in [(0, 12), (0, 13), (0, 14), (0, 5), (0, 15), (0, 16), (0, 17)] rfl (by decide +kernel)) (goodIn_sub zB_X12_word_X120 zgw_X120))
set_option maxRecDepth 100000 in
theorem gX12_word_X12_isDigit : GoodIn wsX12_word (wsV RX12 246 RX12 yX12_isDigit wsX12_isDigit) := goodIn_app (goodIn_r _ [23, 24, 25, 6] rfl (by decide +kernel)) ggX12_word_X12_isDigit
set_option maxRecDepth 100000 in
theorem ggX12_word_X12_faults : GoodIn wsX12_word wsX12_faults := goodIn_hd (goodIn_c zc_wsX12_word_in [(1, 5)] rfl (by decide +kernel)) (goodIn_app (goodIn_c zc_wsX12_word_in [(0, 7), (1, 6)] rfl (by decide +kernel)) (goodIn_sub zB_X12_word_X120 zgw_X120))
set_option maxRecDepth 100000 in
theorem gX12_word_X12_faults : GoodIn wsX12_word (wsV RX12 239 RX12 yX12_faults wsX12_faults) := goodIn_app (goodIn_r _ [27, 28, 29, 6] rfl (by decide +kernel)) ggX12_word_X12_faults
noncomputable def zc_wsX12_must : List (List Cond) := [wsX12_must_r1, wsX12_must_r2, wsX120]
set_option maxRecDepth 20000 in
theorem zc_wsX12_must_in : ∀ l ∈ zc_wsX12_must, ∀ w ∈ l, w ∈ wsX12_must := by
  intro l hl
  unfold zc_wsX12_must at hl
  rcases List.mem_cons.mp hl with e | hl
  · rw [e]
    exact fun w h => List.mem_cons_of_mem _ (List.mem_append_left _ (List.mem_append_left _ h))
  rcases List.mem_cons.mp hl with e | hl
  · rw [e]
    exact fun w h => List.mem_cons_of_mem _ (List.mem_append_left _ (List.mem_append_right _ h))
  rcases List.mem_cons.mp hl with e | hl
  · rw [e]
    exact fun w h => List.mem_cons_of_mem _ (List.mem_append_right _ h)
  cases hl
theorem zB_X12_must_X120 : ∀ w ∈ wsX120, w ∈ wsX12_must := fun _ h => List.mem_cons_of_mem _ (List.mem_append_right _ h)
set_option maxRecDepth 100000 in
theorem ggX12_must_X12_word : GoodIn wsX12_must wsX12_word := goodIn_hd (goodIn_c zc_wsX12_must_in [(0, 5)] rfl (by decide +kernel)) (goodIn_app (goodIn_app (goodIn_c zc_wsX12_must_in [(0, 6), (0, 0), (0, 7), (0, 8), (0, 9), (0, 4), (0, 10), (0, 11), (0, 12), (0, 13), (0, 14), (0, 15), (0, 16), (0, 17), (0, 18), (0, 19), (0, 20), (0, 21), (0, 22), (0, 23), (1, 0), (1, 1), (1, 2), (1, 3)] rfl (by decide +kernel)) (goodIn_c zc_wsX12_must_in [(1, 4), (1, 5), (1, 6), (1, 7), (1, 8), (1, 9), (1, 10)] rfl (by decide +kernel))) (goodIn_sub zB_X12_must_X120 zgw_X120))
set_option maxRecDepth 100000 in
theorem gX12_must_X12_word : GoodIn wsX12_must (wsV RX12 249 RX12 yX12_word wsX12_word) := goodIn_app (goodIn_r _ [2, 3, 4, 5] rfl (by decide +kernel)) ggX12_must_X12_word
set_option maxRecDepth 100000 in
theorem ggX12_must_X12_goesWell : GoodIn wsX12_must wsX12_goesWell := goodIn_hd (goodIn_c zc_wsX12_must_in [(0, 10)] rfl (by decide +kernel)) (goodIn_app (goodIn_c zc_wsX12_must_in [(0, 11)] rfl (by decide +kernel)) (goodIn_sub zB_X12_must_X120 zgw_X120))
set_option maxRecDepth 100000 in
theorem gX12_must_X12_goesWell : GoodIn wsX12_must (wsV RX12 231 RX12 yX12_goesWell wsX12_goesWell) := goodIn_app (goodIn_r _ [8, 9, 10, 5] rfl (by decide +kernel)) ggX12_must_X12_goesWell
set_option maxRecDepth 100000 in
theorem ggX12_must_X12_own : GoodIn wsX12_must wsX12_own := goodIn_hd (goodIn_c zc_wsX12_must_in [(1, 14)] rfl (by decide +kernel)) (goodIn_app (goodIn_c zc_wsX12_must_in [(1, 15), (0, 0), (0, 6), (0, 21)] rfl (by decide +kernel)) (goodIn_sub zB_X12_must_X120 zgw_X120))
set_option maxRecDepth 100000 in
theorem gX12_must_X12_own : GoodIn wsX12_must (wsV RX12 252 RX12 yX12_own wsX12_own) := goodIn_app (goodIn_r _ [36, 37, 38, 5] rfl (by decide +kernel)) ggX12_must_X12_own
set_option maxRecDepth 100000 in
theorem ggX12_must_X12_faults : GoodIn wsX12_must wsX12_faults := goodIn_hd (goodIn_c zc_wsX12_must_in [(1, 9)] rfl (by decide +kernel)) (goodIn_app (goodIn_c zc_wsX12_must_in [(0, 11), (1, 10)] rfl (by decide +kernel)) (goodIn_sub zB_X12_must_X120 zgw_X120))
set_option maxRecDepth 100000 in
theorem gX12_must_X12_faults : GoodIn wsX12_must (wsV RX12 239 RX12 yX12_faults wsX12_faults) := goodIn_app (goodIn_r _ [31, 32, 33, 5] rfl (by decide +kernel)) ggX12_must_X12_faults
noncomputable def zc_wsX12_name : List (List Cond) := [wsX12_name_r1, wsX12_name_r2, wsX120]
set_option maxRecDepth 20000 in
theorem zc_wsX12_name_in : ∀ l ∈ zc_wsX12_name, ∀ w ∈ l, w ∈ wsX12_name := by
  intro l hl
  unfold zc_wsX12_name at hl
  rcases List.mem_cons.mp hl with e | hl
  · rw [e]
    exact fun w h => List.mem_cons_of_mem _ (List.mem_append_left _ (List.mem_append_left _ h))
  rcases List.mem_cons.mp hl with e | hl
  · rw [e]
    exact fun w h => List.mem_cons_of_mem _ (List.mem_append_left _ (List.mem_append_right _ h))
  rcases List.mem_cons.mp hl with e | hl
  · rw [e]
    exact fun w h => List.mem_cons_of_mem _ (List.mem_append_right _ h)
  cases hl
theorem zB_X12_name_X120 : ∀ w ∈ wsX120, w ∈ wsX12_name := fun _ h => List.mem_cons_of_mem _ (List.mem_append_right _ h)
set_option maxRecDepth 100000 in
theorem ggX12_name_X12_word : GoodIn wsX12_name wsX12_word := goodIn_hd (goodIn_c zc_wsX12_name_in [(0, 7)] rfl (by decide +kernel)) (goodIn_app (goodIn_app (goodIn_c zc_wsX12_name_in [(0, 0), (0, 1), (0, 8), (0, 9), (0, 10), (0, 6), (0, 11), (0, 12), (0, 13), (0, 14), (0, 15), (0, 16), (0, 17), (0, 18), (0, 19), (0, 20), (0, 21), (0, 2), (0, 22), (0, 23), (1, 0), (1, 1), (1, 2), (1, 3)] rfl (by decide +kernel)) (goodIn_c zc_wsX12_name_in [(1, 4), (1, 5), (1, 6), (1, 7), (1, 8), (1, 9), (1, 10)] rfl (by decide +kernel))) (goodIn_sub zB_X12_name_X120 zgw_X120))
set_option maxRecDepth 100000 in
theorem gX12_name_X12_word : GoodIn wsX12_name (wsV RX12 249 RX12 yX12_word wsX12_word) := goodIn_app (goodIn_r _ [4, 5, 6, 7] rfl (by decide +kernel)) ggX12_name_X12_word
set_option maxRecDepth 100000 in
theorem ggX12_name_X12_goesWell : GoodIn wsX12_name wsX12_goesWell := goodIn_hd (goodIn_c zc_wsX12_name_in [(0, 11)] rfl (by decide +kernel)) (goodIn_app (goodIn_c zc_wsX12_name_in [(0, 12)] rfl (by decide +kernel)) (goodIn_sub zB_X12_name_X120 zgw_X120))
set_option maxRecDepth 100000 in
theorem gX12_name_X12_goesWell : GoodIn wsX12_name (wsV RX12 231 RX12 yX12_goesWell wsX12_goesWell) := goodIn_app (goodIn_r _ [9, 10, 11, 7] rfl (by decide +kernel)) ggX12_name_X12_goesWell
set_option maxRecDepth 100000 in
theorem ggX12_name_X12_own : GoodIn wsX12_name wsX12_own := goodIn_hd (goodIn_c zc_wsX12_name_in [(1, 14)] rfl (by decide +kernel)) (goodIn_app (goodIn_c zc_wsX12_name_in [(1, 15), (0, 1), (0, 0), (0, 2)] rfl (by decide +kernel)) (goodIn_sub zB_X12_name_X120 zgw_X120))
set_option maxRecDepth 100000 in
theorem gX12_name_X12_own : GoodIn wsX12_name (wsV RX12 252 RX12 yX12_own wsX12_own) := goodIn_app (goodIn_r _ [36, 37, 38, 7] rfl (by decide +kernel)) ggX12_name_X12_own
set_option maxRecDepth 100000 in
theorem ggX12_name_X12_faults : GoodIn wsX12_name wsX12_faults := goodIn_hd (goodIn_c zc_wsX12_name_in [(1, 9)] rfl (by decide +kernel)) (goodIn_app (goodIn_c zc_wsX12_name_in [(0, 12), (1, 10)] rfl (by decide +kernel)) (goodIn_sub zB_X12_name_X120 zgw_X120))
set_option maxRecDepth 100000 in
theorem gX12_name_X12_faults : GoodIn wsX12_name (wsV RX12 239 RX12 yX12_faults wsX12_faults) := goodIn_app (goodIn_r _ [31, 32, 33, 7] rfl (by decide +kernel)) ggX12_name_X12_faults
noncomputable def zc_wsX12_digits : List (List Cond) := [wsX12_digits_r1, wsX12_digits_r2, wsX120]
set_option maxRecDepth 20000 in
theorem zc_wsX12_digits_in : ∀ l ∈ zc_wsX12_digits, ∀ w ∈ l, w ∈ wsX12_digits := by
  intro l hl
  unfold zc_wsX12_digits at hl
  rcases List.mem_cons.mp hl with e | hl
  · rw [e]
    exact fun w h => List.mem_cons_of_mem _ (List.mem_append_left _ (List.mem_append_left _ h))
  rcases List.mem_cons.mp hl with e | hl
  · rw [e]
    exact fun w h => List.mem_cons_of_mem _ (List.mem_append_left _ (List.mem_append_right _ h))
  rcases List.mem_cons.mp hl with e | hl
  · rw [e]
    exact fun w h => List.mem_cons_of_mem _ (List.mem_append_right _ h)
  cases hl
theorem zB_X12_digits_X120 : ∀ w ∈ wsX120, w ∈ wsX12_digits := fun _ h => List.mem_cons_of_mem _ (List.mem_append_right _ h)
set_option maxRecDepth 100000 in
theorem ggX12_digits_X12_goesWell : GoodIn wsX12_digits wsX12_goesWell := goodIn_hd (goodIn_c zc_wsX12_digits_in [(0, 8)] rfl (by decide +kernel)) (goodIn_app (goodIn_c zc_wsX12_digits_in [(0, 9)] rfl (by decide +kernel)) (goodIn_sub zB_X12_digits_X120 zgw_X120))
set_option maxRecDepth 100000 in
theorem gX12_digits_X12_goesWell : GoodIn wsX12_digits (wsV RX12 231 RX12 yX12_goesWell wsX12_goesWell) := goodIn_app (goodIn_r _ [5, 6, 7, 8] rfl (by decide +kernel)) ggX12_digits_X12_goesWell
set_option maxRecDepth 100000 in
theorem ggX12_digits_X12_here : GoodIn wsX12_digits wsX12_here := goodIn_hd (goodIn_c zc_wsX12_digits_in [(0, 13)] rfl (by decide +kernel)) (goodIn_app (goodIn_c zc_wsX12_digits_in [(0, 0), (0, 14), (0, 15), (0, 16), (0, 7), (0, 17), (0, 18), (0, 19)] rfl (by decide +kernel)) (goodIn_sub zB_X12_digits_X120 zgw_X120))
set_option maxRecDepth 100000 in
theorem gX12_digits_X12_here : GoodIn wsX12_digits (wsV RX12 235 RX12 yX12_here wsX12_here) := goodIn_app (goodIn_r _ [11, 12, 13, 8] rfl (by decide +kernel)) ggX12_digits_X12_here
set_option maxRecDepth 100000 in
theorem ggX12_digits_X12_isDigit : GoodIn wsX12_digits wsX12_isDigit := goodIn_hd (goodIn_c zc_wsX12_digits_in [(0, 23)] rfl (by decide +kernel)) (goodIn_app (goodIn_c zc_wsX12_digits_in [(0, 14), (0, 15), (0, 16), (0, 7), (0, 17), (0, 18), (0, 19)] rfl (by decide +kernel)) (goodIn_sub zB_X12_digits_X120 zgw_X120))
set_option maxRecDepth 100000 in
theorem gX12_digits_X12_isDigit : GoodIn wsX12_digits (wsV RX12 246 RX12 yX12_isDigit wsX12_isDigit) := goodIn_app (goodIn_r _ [21, 22, 23, 8] rfl (by decide +kernel)) ggX12_digits_X12_isDigit
set_option maxRecDepth 100000 in
theorem ggX12_digits_X12_isSmall : GoodIn wsX12_digits wsX12_isSmall := goodIn_hd (goodIn_c zc_wsX12_digits_in [(1, 3)] rfl (by decide +kernel)) (goodIn_app (goodIn_c zc_wsX12_digits_in [(0, 14), (0, 15), (0, 16), (0, 7), (0, 17), (0, 18), (0, 19)] rfl (by decide +kernel)) (goodIn_sub zB_X12_digits_X120 zgw_X120))
set_option maxRecDepth 100000 in
theorem gX12_digits_X12_isSmall : GoodIn wsX12_digits (wsV RX12 243 RX12 yX12_isSmall wsX12_isSmall) := goodIn_app (goodIn_r _ [25, 26, 27, 8] rfl (by decide +kernel)) ggX12_digits_X12_isSmall
set_option maxRecDepth 100000 in
theorem ggX12_digits_X12_faults : GoodIn wsX12_digits wsX12_faults := goodIn_hd (goodIn_c zc_wsX12_digits_in [(1, 7)] rfl (by decide +kernel)) (goodIn_app (goodIn_c zc_wsX12_digits_in [(0, 9), (1, 8)] rfl (by decide +kernel)) (goodIn_sub zB_X12_digits_X120 zgw_X120))
set_option maxRecDepth 100000 in
theorem gX12_digits_X12_faults : GoodIn wsX12_digits (wsV RX12 239 RX12 yX12_faults wsX12_faults) := goodIn_app (goodIn_r _ [29, 30, 31, 8] rfl (by decide +kernel)) ggX12_digits_X12_faults
set_option maxRecDepth 100000 in
theorem ggX12_digits_X12_byteAt : GoodIn wsX12_digits wsX12_byteAt := goodIn_hd (goodIn_c zc_wsX12_digits_in [(0, 17)] rfl (by decide +kernel)) (goodIn_app (goodIn_c zc_wsX12_digits_in [(0, 18), (0, 19)] rfl (by decide +kernel)) (goodIn_sub zB_X12_digits_X120 zgw_X120))
set_option maxRecDepth 100000 in
theorem gX12_digits_X12_byteAt : GoodIn wsX12_digits (wsV RX12 228 RX12 yX12_byteAt wsX12_byteAt) := goodIn_app (goodIn_r _ [15, 16, 17, 8] rfl (by decide +kernel)) ggX12_digits_X12_byteAt
noncomputable def zc_wsX12_number : List (List Cond) := [wsX12_number_r1, wsX12_number_r2, wsX120]
set_option maxRecDepth 20000 in
theorem zc_wsX12_number_in : ∀ l ∈ zc_wsX12_number, ∀ w ∈ l, w ∈ wsX12_number := by
  intro l hl
  unfold zc_wsX12_number at hl
  rcases List.mem_cons.mp hl with e | hl
  · rw [e]
    exact fun w h => List.mem_cons_of_mem _ (List.mem_append_left _ (List.mem_append_left _ h))
  rcases List.mem_cons.mp hl with e | hl
  · rw [e]
    exact fun w h => List.mem_cons_of_mem _ (List.mem_append_left _ (List.mem_append_right _ h))
  rcases List.mem_cons.mp hl with e | hl
  · rw [e]
    exact fun w h => List.mem_cons_of_mem _ (List.mem_append_right _ h)
  cases hl
theorem zB_X12_number_X120 : ∀ w ∈ wsX120, w ∈ wsX12_number := fun _ h => List.mem_cons_of_mem _ (List.mem_append_right _ h)
set_option maxRecDepth 100000 in
theorem ggX12_number_X12_digits : GoodIn wsX12_number wsX12_digits := goodIn_hd (goodIn_c zc_wsX12_number_in [(0, 5)] rfl (by decide +kernel)) (goodIn_app (goodIn_app (goodIn_c zc_wsX12_number_in [(0, 6), (0, 0), (0, 7), (0, 8), (0, 9), (0, 10), (0, 11), (0, 4), (0, 12), (0, 13), (0, 14), (0, 15), (0, 16), (0, 17), (0, 18), (0, 19), (0, 20), (0, 21), (0, 22), (0, 23), (1, 0), (1, 1), (1, 2), (1, 3)] rfl (by decide +kernel)) (goodIn_c zc_wsX12_number_in [(1, 4), (1, 5), (1, 6), (1, 7), (1, 8), (1, 9), (1, 10), (1, 11), (1, 12)] rfl (by decide +kernel))) (goodIn_sub zB_X12_number_X120 zgw_X120))
set_option maxRecDepth 100000 in
theorem gX12_number_X12_digits : GoodIn wsX12_number (wsV RX12 259 RX12 yX12_digits wsX12_digits) := goodIn_app (goodIn_r _ [2, 3, 4, 5] rfl (by decide +kernel)) ggX12_number_X12_digits
set_option maxRecDepth 100000 in
theorem ggX12_number_X12_goesWell : GoodIn wsX12_number wsX12_goesWell := goodIn_hd (goodIn_c zc_wsX12_number_in [(0, 12)] rfl (by decide +kernel)) (goodIn_app (goodIn_c zc_wsX12_number_in [(0, 13)] rfl (by decide +kernel)) (goodIn_sub zB_X12_number_X120 zgw_X120))
set_option maxRecDepth 100000 in
theorem gX12_number_X12_goesWell : GoodIn wsX12_number (wsV RX12 231 RX12 yX12_goesWell wsX12_goesWell) := goodIn_app (goodIn_r _ [10, 11, 12, 5] rfl (by decide +kernel)) ggX12_number_X12_goesWell
set_option maxRecDepth 100000 in
theorem ggX12_number_X12_isIn : GoodIn wsX12_number wsX12_isIn := goodIn_r _ [40] rfl (by decide +kernel)
set_option maxRecDepth 100000 in
theorem gX12_number_X12_isIn : GoodIn wsX12_number (va_wsS RX12 263 yX12_isIn wsX12_isIn) := goodIn_app (goodIn_r _ [38, 39, 5] rfl (by decide +kernel)) ggX12_number_X12_isIn
set_option maxRecDepth 100000 in
theorem ggX12_number_X12_faults : GoodIn wsX12_number wsX12_faults := goodIn_hd (goodIn_c zc_wsX12_number_in [(1, 11)] rfl (by decide +kernel)) (goodIn_app (goodIn_c zc_wsX12_number_in [(0, 13), (1, 12)] rfl (by decide +kernel)) (goodIn_sub zB_X12_number_X120 zgw_X120))
set_option maxRecDepth 100000 in
theorem gX12_number_X12_faults : GoodIn wsX12_number (wsV RX12 239 RX12 yX12_faults wsX12_faults) := goodIn_app (goodIn_r _ [33, 34, 35, 5] rfl (by decide +kernel)) ggX12_number_X12_faults
noncomputable def zc_wsX12_signed : List (List Cond) := [wsX12_signed_r1, wsX12_signed_r2, wsX120]
set_option maxRecDepth 20000 in
theorem zc_wsX12_signed_in : ∀ l ∈ zc_wsX12_signed, ∀ w ∈ l, w ∈ wsX12_signed := by
  intro l hl
  unfold zc_wsX12_signed at hl
  rcases List.mem_cons.mp hl with e | hl
  · rw [e]
    exact fun w h => List.mem_cons_of_mem _ (List.mem_append_left _ (List.mem_append_left _ h))
  rcases List.mem_cons.mp hl with e | hl
  · rw [e]
    exact fun w h => List.mem_cons_of_mem _ (List.mem_append_left _ (List.mem_append_right _ h))
  rcases List.mem_cons.mp hl with e | hl
  · rw [e]
    exact fun w h => List.mem_cons_of_mem _ (List.mem_append_right _ h)
  cases hl
theorem zB_X12_signed_X120 : ∀ w ∈ wsX120, w ∈ wsX12_signed := fun _ h => List.mem_cons_of_mem _ (List.mem_append_right _ h)
set_option maxRecDepth 100000 in
theorem ggX12_signed_X12_goesWell : GoodIn wsX12_signed wsX12_goesWell := goodIn_hd (goodIn_c zc_wsX12_signed_in [(0, 6)] rfl (by decide +kernel)) (goodIn_app (goodIn_c zc_wsX12_signed_in [(0, 7)] rfl (by decide +kernel)) (goodIn_sub zB_X12_signed_X120 zgw_X120))
set_option maxRecDepth 100000 in
theorem gX12_signed_X12_goesWell : GoodIn wsX12_signed (wsV RX12 231 RX12 yX12_goesWell wsX12_goesWell) := goodIn_app (goodIn_r _ [3, 4, 5, 6] rfl (by decide +kernel)) ggX12_signed_X12_goesWell
set_option maxRecDepth 100000 in
theorem ggX12_signed_X12_here : GoodIn wsX12_signed wsX12_here := goodIn_hd (goodIn_c zc_wsX12_signed_in [(0, 11)] rfl (by decide +kernel)) (goodIn_app (goodIn_c zc_wsX12_signed_in [(0, 0), (0, 12), (0, 13), (0, 14), (0, 5), (0, 15), (0, 16), (0, 17)] rfl (by decide +kernel)) (goodIn_sub zB_X12_signed_X120 zgw_X120))
set_option maxRecDepth 100000 in
theorem gX12_signed_X12_here : GoodIn wsX12_signed (wsV RX12 235 RX12 yX12_here wsX12_here) := goodIn_app (goodIn_r _ [9, 10, 11, 6] rfl (by decide +kernel)) ggX12_signed_X12_here
set_option maxRecDepth 100000 in
theorem ggX12_signed_X12_digits : GoodIn wsX12_signed wsX12_digits := goodIn_hd (goodIn_c zc_wsX12_signed_in [(0, 21)] rfl (by decide +kernel)) (goodIn_app (goodIn_app (goodIn_c zc_wsX12_signed_in [(0, 0), (0, 1), (0, 22), (0, 23), (0, 2), (0, 3), (0, 4), (0, 5), (0, 6), (0, 7), (0, 8), (0, 9), (0, 10), (0, 11), (0, 12), (0, 13), (0, 14), (0, 15), (0, 16), (0, 17), (1, 0), (1, 1), (1, 2), (1, 3)] rfl (by decide +kernel)) (goodIn_c zc_wsX12_signed_in [(1, 4), (1, 5), (1, 6), (1, 7), (1, 8), (1, 9), (1, 10), (1, 11), (1, 12)] rfl (by decide +kernel))) (goodIn_sub zB_X12_signed_X120 zgw_X120))
set_option maxRecDepth 100000 in
theorem gX12_signed_X12_digits : GoodIn wsX12_signed (wsV RX12 259 RX12 yX12_digits wsX12_digits) := goodIn_app (goodIn_r _ [19, 20, 21, 6] rfl (by decide +kernel)) ggX12_signed_X12_digits
set_option maxRecDepth 100000 in
theorem ggX12_signed_X12_isIn : GoodIn wsX12_signed wsX12_isIn := goodIn_r _ [40] rfl (by decide +kernel)
set_option maxRecDepth 100000 in
theorem gX12_signed_X12_isIn : GoodIn wsX12_signed (va_wsS RX12 263 yX12_isIn wsX12_isIn) := goodIn_app (goodIn_r _ [38, 39, 6] rfl (by decide +kernel)) ggX12_signed_X12_isIn
set_option maxRecDepth 100000 in
theorem ggX12_signed_X12_faults : GoodIn wsX12_signed wsX12_faults := goodIn_hd (goodIn_c zc_wsX12_signed_in [(1, 11)] rfl (by decide +kernel)) (goodIn_app (goodIn_c zc_wsX12_signed_in [(0, 7), (1, 12)] rfl (by decide +kernel)) (goodIn_sub zB_X12_signed_X120 zgw_X120))
set_option maxRecDepth 100000 in
theorem gX12_signed_X12_faults : GoodIn wsX12_signed (wsV RX12 239 RX12 yX12_faults wsX12_faults) := goodIn_app (goodIn_r _ [33, 34, 35, 6] rfl (by decide +kernel)) ggX12_signed_X12_faults
theorem zB_X12_formatNamed_X120 : ∀ w ∈ wsX120, w ∈ wsX12_formatNamed := fun _ h => List.mem_cons_of_mem _ (List.mem_append_right _ h)
set_option maxRecDepth 100000 in
theorem ggX12_formatNamed_X12_f : GoodIn wsX12_formatNamed wsX12_f := goodIn_hd (goodIn_r _ [8] rfl (by decide +kernel)) (goodIn_app (goodIn_r _ [2] rfl (by decide +kernel)) (goodIn_sub zB_X12_formatNamed_X120 zgw_X120))
set_option maxRecDepth 100000 in
theorem gX12_formatNamed_X12_f : GoodIn wsX12_formatNamed (wsV RX12 267 RX12 yX12_f wsX12_f) := goodIn_app (goodIn_r _ [4, 5, 6, 7] rfl (by decide +kernel)) ggX12_formatNamed_X12_f
theorem zB_X12_numberNamed_X120 : ∀ w ∈ wsX120, w ∈ wsX12_numberNamed := fun _ h => List.mem_cons_of_mem _ (List.mem_append_right _ h)
set_option maxRecDepth 100000 in
theorem ggX12_numberNamed_X12_n : GoodIn wsX12_numberNamed wsX12_n := goodIn_hd (goodIn_r _ [8] rfl (by decide +kernel)) (goodIn_app (goodIn_r _ [2] rfl (by decide +kernel)) (goodIn_sub zB_X12_numberNamed_X120 zgw_X120))
set_option maxRecDepth 100000 in
theorem gX12_numberNamed_X12_n : GoodIn wsX12_numberNamed (wsV RX12 270 RX12 yX12_n wsX12_n) := goodIn_app (goodIn_r _ [4, 5, 6, 7] rfl (by decide +kernel)) ggX12_numberNamed_X12_n
noncomputable def zc_wsX12_newName : List (List Cond) := [wsX12_newName_r1, wsX12_newName_r2, wsX12_newName_r3, wsX120]
set_option maxRecDepth 20000 in
theorem zc_wsX12_newName_in : ∀ l ∈ zc_wsX12_newName, ∀ w ∈ l, w ∈ wsX12_newName := by
  intro l hl
  unfold zc_wsX12_newName at hl
  rcases List.mem_cons.mp hl with e | hl
  · rw [e]
    exact fun w h => List.mem_cons_of_mem _ (List.mem_append_left _ (List.mem_append_left _ h))
  rcases List.mem_cons.mp hl with e | hl
  · rw [e]
    exact fun w h => List.mem_cons_of_mem _ (List.mem_append_left _ (List.mem_append_right _ (List.mem_append_left _ h)))
  rcases List.mem_cons.mp hl with e | hl
  · rw [e]
    exact fun w h => List.mem_cons_of_mem _ (List.mem_append_left _ (List.mem_append_right _ (List.mem_append_right _ h)))
  rcases List.mem_cons.mp hl with e | hl
  · rw [e]
    exact fun w h => List.mem_cons_of_mem _ (List.mem_append_right _ h)
  cases hl
theorem zB_X12_newName_X120 : ∀ w ∈ wsX120, w ∈ wsX12_newName := fun _ h => List.mem_cons_of_mem _ (List.mem_append_right _ h)
set_option maxRecDepth 100000 in
theorem ggX12_newName_X12_name : GoodIn wsX12_newName wsX12_name := goodIn_hd (goodIn_c zc_wsX12_newName_in [(0, 5)] rfl (by decide +kernel)) (goodIn_app (goodIn_app (goodIn_c zc_wsX12_newName_in [(0, 6), (0, 0), (0, 7), (0, 8), (0, 9), (0, 10), (0, 4), (0, 11), (0, 12), (0, 13), (0, 14), (0, 15), (0, 16), (0, 17), (0, 18), (0, 19), (0, 20), (0, 21), (0, 22), (0, 23), (1, 0), (1, 1), (1, 2), (1, 3)] rfl (by decide +kernel)) (goodIn_c zc_wsX12_newName_in [(1, 4), (1, 5), (1, 6), (1, 7), (1, 8), (1, 9), (1, 10), (1, 11), (1, 12), (1, 13), (1, 14), (1, 15), (1, 16), (1, 17), (1, 18), (1, 19)] rfl (by decide +kernel))) (goodIn_sub zB_X12_newName_X120 zgw_X120))
set_option maxRecDepth 100000 in
theorem gX12_newName_X12_name : GoodIn wsX12_newName (wsV RX12 273 RX12 yX12_name wsX12_name) := goodIn_app (goodIn_r _ [2, 3, 4, 5] rfl (by decide +kernel)) ggX12_newName_X12_name
set_option maxRecDepth 100000 in
theorem ggX12_newName_X12_goesWell : GoodIn wsX12_newName wsX12_goesWell := goodIn_hd (goodIn_c zc_wsX12_newName_in [(0, 15)] rfl (by decide +kernel)) (goodIn_app (goodIn_c zc_wsX12_newName_in [(0, 16)] rfl (by decide +kernel)) (goodIn_sub zB_X12_newName_X120 zgw_X120))
set_option maxRecDepth 100000 in
theorem gX12_newName_X12_goesWell : GoodIn wsX12_newName (wsV RX12 231 RX12 yX12_goesWell wsX12_goesWell) := goodIn_app (goodIn_r _ [13, 14, 15, 5] rfl (by decide +kernel)) ggX12_newName_X12_goesWell
set_option maxRecDepth 100000 in
theorem ggX12_newName_X12_formatNamed : GoodIn wsX12_newName wsX12_formatNamed := goodIn_hd (goodIn_c zc_wsX12_newName_in [(1, 23)] rfl (by decide +kernel)) (goodIn_app (goodIn_c zc_wsX12_newName_in [(2, 0), (2, 1), (2, 2), (2, 3), (2, 4), (2, 5), (0, 4), (2, 6)] rfl (by decide +kernel)) (goodIn_sub zB_X12_newName_X120 zgw_X120))
set_option maxRecDepth 100000 in
theorem gX12_newName_X12_formatNamed : GoodIn wsX12_newName (wsV RX12 276 RX12 yX12_formatNamed wsX12_formatNamed) := goodIn_app (goodIn_r _ [45, 46, 47, 5] rfl (by decide +kernel)) ggX12_newName_X12_formatNamed
set_option maxRecDepth 100000 in
theorem ggX12_newName_X12_numberNamed : GoodIn wsX12_newName wsX12_numberNamed := goodIn_hd (goodIn_c zc_wsX12_newName_in [(2, 10)] rfl (by decide +kernel)) (goodIn_app (goodIn_c zc_wsX12_newName_in [(2, 11), (2, 1), (2, 12), (2, 13), (2, 14), (2, 15), (0, 4), (2, 16)] rfl (by decide +kernel)) (goodIn_sub zB_X12_newName_X120 zgw_X120))
set_option maxRecDepth 100000 in
theorem gX12_newName_X12_numberNamed : GoodIn wsX12_newName (wsV RX12 279 RX12 yX12_numberNamed wsX12_numberNamed) := goodIn_app (goodIn_r _ [56, 57, 58, 5] rfl (by decide +kernel)) ggX12_newName_X12_numberNamed
set_option maxRecDepth 100000 in
theorem ggX12_newName_X12_faults : GoodIn wsX12_newName wsX12_faults := goodIn_hd (goodIn_c zc_wsX12_newName_in [(1, 13)] rfl (by decide +kernel)) (goodIn_app (goodIn_c zc_wsX12_newName_in [(0, 16), (1, 14)] rfl (by decide +kernel)) (goodIn_sub zB_X12_newName_X120 zgw_X120))
set_option maxRecDepth 100000 in
theorem gX12_newName_X12_faults : GoodIn wsX12_newName (wsV RX12 239 RX12 yX12_faults wsX12_faults) := goodIn_app (goodIn_r _ [35, 36, 37, 5] rfl (by decide +kernel)) ggX12_newName_X12_faults
noncomputable def zc_wsX12_toldNumber : List (List Cond) := [wsX12_toldNumber_r1, wsX12_toldNumber_r2, wsX12_toldNumber_r3, wsX120]
set_option maxRecDepth 20000 in
theorem zc_wsX12_toldNumber_in : ∀ l ∈ zc_wsX12_toldNumber, ∀ w ∈ l, w ∈ wsX12_toldNumber := by
  intro l hl
  unfold zc_wsX12_toldNumber at hl
  rcases List.mem_cons.mp hl with e | hl
  · rw [e]
    exact fun w h => List.mem_cons_of_mem _ (List.mem_append_left _ (List.mem_append_left _ h))
  rcases List.mem_cons.mp hl with e | hl
  · rw [e]
    exact fun w h => List.mem_cons_of_mem _ (List.mem_append_left _ (List.mem_append_right _ (List.mem_append_left _ h)))
  rcases List.mem_cons.mp hl with e | hl
  · rw [e]
    exact fun w h => List.mem_cons_of_mem _ (List.mem_append_left _ (List.mem_append_right _ (List.mem_append_right _ h)))
  rcases List.mem_cons.mp hl with e | hl
  · rw [e]
    exact fun w h => List.mem_cons_of_mem _ (List.mem_append_right _ h)
  cases hl
theorem zB_X12_toldNumber_X120 : ∀ w ∈ wsX120, w ∈ wsX12_toldNumber := fun _ h => List.mem_cons_of_mem _ (List.mem_append_right _ h)
set_option maxRecDepth 100000 in
theorem ggX12_toldNumber_X12_name : GoodIn wsX12_toldNumber wsX12_name := goodIn_hd (goodIn_c zc_wsX12_toldNumber_in [(0, 5)] rfl (by decide +kernel)) (goodIn_app (goodIn_app (goodIn_c zc_wsX12_toldNumber_in [(0, 6), (0, 0), (0, 7), (0, 8), (0, 9), (0, 10), (0, 4), (0, 11), (0, 12), (0, 13), (0, 14), (0, 15), (0, 16), (0, 17), (0, 18), (0, 19), (0, 20), (0, 21), (0, 22), (0, 23), (1, 0), (1, 1), (1, 2), (1, 3)] rfl (by decide +kernel)) (goodIn_c zc_wsX12_toldNumber_in [(1, 4), (1, 5), (1, 6), (1, 7), (1, 8), (1, 9), (1, 10), (1, 11), (1, 12), (1, 13), (1, 14), (1, 15), (1, 16), (1, 17), (1, 18), (1, 19)] rfl (by decide +kernel))) (goodIn_sub zB_X12_toldNumber_X120 zgw_X120))
set_option maxRecDepth 100000 in
theorem gX12_toldNumber_X12_name : GoodIn wsX12_toldNumber (wsV RX12 273 RX12 yX12_name wsX12_name) := goodIn_app (goodIn_r _ [2, 3, 4, 5] rfl (by decide +kernel)) ggX12_toldNumber_X12_name
set_option maxRecDepth 100000 in
theorem ggX12_toldNumber_X12_goesWell : GoodIn wsX12_toldNumber wsX12_goesWell := goodIn_hd (goodIn_c zc_wsX12_toldNumber_in [(0, 15)] rfl (by decide +kernel)) (goodIn_app (goodIn_c zc_wsX12_toldNumber_in [(0, 16)] rfl (by decide +kernel)) (goodIn_sub zB_X12_toldNumber_X120 zgw_X120))
set_option maxRecDepth 100000 in
theorem gX12_toldNumber_X12_goesWell : GoodIn wsX12_toldNumber (wsV RX12 231 RX12 yX12_goesWell wsX12_goesWell) := goodIn_app (goodIn_r _ [13, 14, 15, 5] rfl (by decide +kernel)) ggX12_toldNumber_X12_goesWell
set_option maxRecDepth 100000 in
theorem ggX12_toldNumber_X12_numberNamed : GoodIn wsX12_toldNumber wsX12_numberNamed := goodIn_hd (goodIn_c zc_wsX12_toldNumber_in [(1, 23)] rfl (by decide +kernel)) (goodIn_app (goodIn_c zc_wsX12_toldNumber_in [(2, 0), (2, 1), (2, 2), (2, 3), (2, 4), (2, 5), (0, 4), (2, 6)] rfl (by decide +kernel)) (goodIn_sub zB_X12_toldNumber_X120 zgw_X120))
set_option maxRecDepth 100000 in
theorem gX12_toldNumber_X12_numberNamed : GoodIn wsX12_toldNumber (wsV RX12 279 RX12 yX12_numberNamed wsX12_numberNamed) := goodIn_app (goodIn_r _ [45, 46, 47, 5] rfl (by decide +kernel)) ggX12_toldNumber_X12_numberNamed
set_option maxRecDepth 100000 in
theorem ggX12_toldNumber_X12_faults : GoodIn wsX12_toldNumber wsX12_faults := goodIn_hd (goodIn_c zc_wsX12_toldNumber_in [(1, 13)] rfl (by decide +kernel)) (goodIn_app (goodIn_c zc_wsX12_toldNumber_in [(0, 16), (1, 14)] rfl (by decide +kernel)) (goodIn_sub zB_X12_toldNumber_X120 zgw_X120))
set_option maxRecDepth 100000 in
theorem gX12_toldNumber_X12_faults : GoodIn wsX12_toldNumber (wsV RX12 239 RX12 yX12_faults wsX12_faults) := goodIn_app (goodIn_r _ [35, 36, 37, 5] rfl (by decide +kernel)) ggX12_toldNumber_X12_faults
noncomputable def zc_wsX12_readsFormat : List (List Cond) := [wsX12_readsFormat_r1, wsX12_readsFormat_r2, wsX12_readsFormat_r3, wsX12_readsFormat_r4, wsX120]
set_option maxRecDepth 20000 in
theorem zc_wsX12_readsFormat_in : ∀ l ∈ zc_wsX12_readsFormat, ∀ w ∈ l, w ∈ wsX12_readsFormat := by
  intro l hl
  unfold zc_wsX12_readsFormat at hl
  rcases List.mem_cons.mp hl with e | hl
  · rw [e]
    exact fun w h => List.mem_cons_of_mem _ (List.mem_append_left _ (List.mem_append_left _ h))
  rcases List.mem_cons.mp hl with e | hl
  · rw [e]
    exact fun w h => List.mem_cons_of_mem _ (List.mem_append_left _ (List.mem_append_right _ (List.mem_append_left _ h)))
  rcases List.mem_cons.mp hl with e | hl
  · rw [e]
    exact fun w h => List.mem_cons_of_mem _ (List.mem_append_left _ (List.mem_append_right _ (List.mem_append_right _ (List.mem_append_left _ h))))
  rcases List.mem_cons.mp hl with e | hl
  · rw [e]
    exact fun w h => List.mem_cons_of_mem _ (List.mem_append_left _ (List.mem_append_right _ (List.mem_append_right _ (List.mem_append_right _ h))))
  rcases List.mem_cons.mp hl with e | hl
  · rw [e]
    exact fun w h => List.mem_cons_of_mem _ (List.mem_append_right _ h)
  cases hl
theorem zB_X12_readsFormat_X120 : ∀ w ∈ wsX120, w ∈ wsX12_readsFormat := fun _ h => List.mem_cons_of_mem _ (List.mem_append_right _ h)
set_option maxRecDepth 100000 in
theorem ggX12_readsFormat_X12_newName : GoodIn wsX12_readsFormat wsX12_newName := goodIn_hd (goodIn_c zc_wsX12_readsFormat_in [(0, 14)] rfl (by decide +kernel)) (goodIn_app (goodIn_app (goodIn_c zc_wsX12_readsFormat_in [(0, 2), (0, 15), (0, 16), (0, 17), (0, 13), (0, 18), (0, 19), (0, 20), (0, 21), (0, 22), (0, 23), (1, 0), (1, 1), (1, 2), (1, 3), (1, 4), (1, 5), (1, 6), (1, 7), (1, 8), (1, 9), (1, 10), (1, 11), (1, 12)] rfl (by decide +kernel)) (goodIn_app (goodIn_c zc_wsX12_readsFormat_in [(1, 13), (1, 14), (1, 15), (1, 16), (1, 17), (1, 18), (1, 19), (1, 20), (1, 21), (1, 22), (1, 23), (2, 0), (2, 1), (2, 2), (2, 3), (2, 4), (2, 5), (2, 6), (2, 7), (2, 8), (2, 9), (2, 10), (2, 11), (2, 12)] rfl (by decide +kernel)) (goodIn_c zc_wsX12_readsFormat_in [(0, 4), (0, 5), (0, 6), (2, 13), (2, 14), (2, 15), (2, 16), (2, 17), (2, 18), (2, 19), (2, 20), (2, 21), (2, 22), (2, 23), (3, 0), (3, 1), (3, 2)] rfl (by decide +kernel)))) (goodIn_sub zB_X12_readsFormat_X120 zgw_X120))
set_option maxRecDepth 100000 in
theorem gX12_readsFormat_X12_newName : GoodIn wsX12_readsFormat (wsV RX12 282 RX12 yX12_newName wsX12_newName) := goodIn_app (goodIn_r _ [11, 12, 13, 14] rfl (by decide +kernel)) ggX12_readsFormat_X12_newName
set_option maxRecDepth 100000 in
theorem ggX12_readsFormat_X12_must : GoodIn wsX12_readsFormat wsX12_must := goodIn_hd (goodIn_c zc_wsX12_readsFormat_in [(3, 6)] rfl (by decide +kernel)) (goodIn_app (goodIn_app (goodIn_c zc_wsX12_readsFormat_in [(0, 2), (0, 21), (0, 22), (0, 23), (0, 13), (1, 0), (0, 19), (1, 1), (1, 2), (1, 3), (1, 4), (1, 5), (1, 6), (1, 7), (1, 8), (1, 9), (1, 10), (1, 11), (1, 12), (1, 13), (1, 14), (0, 20), (1, 15), (1, 16)] rfl (by decide +kernel)) (goodIn_c zc_wsX12_readsFormat_in [(1, 17), (1, 18), (1, 19), (1, 20), (1, 21), (1, 22), (1, 23), (2, 0), (2, 1), (2, 2), (2, 3), (2, 4), (2, 5), (2, 6), (2, 7), (2, 8)] rfl (by decide +kernel))) (goodIn_sub zB_X12_readsFormat_X120 zgw_X120))
set_option maxRecDepth 100000 in
theorem gX12_readsFormat_X12_must : GoodIn wsX12_readsFormat (wsV RX12 285 RX12 yX12_must wsX12_must) := goodIn_app (goodIn_r _ [76, 77, 78, 14] rfl (by decide +kernel)) ggX12_readsFormat_X12_must
set_option maxRecDepth 100000 in
theorem ggX12_readsFormat_X12_number : GoodIn wsX12_readsFormat wsX12_number := goodIn_hd (goodIn_c zc_wsX12_readsFormat_in [(3, 10)] rfl (by decide +kernel)) (goodIn_app (goodIn_app (goodIn_c zc_wsX12_readsFormat_in [(0, 2), (3, 11), (3, 12), (3, 13), (0, 13), (3, 14), (0, 19), (3, 15), (3, 16), (1, 1), (1, 2), (1, 3), (1, 4), (1, 5), (1, 6), (1, 7), (1, 8), (1, 9), (1, 10), (1, 11), (1, 12), (1, 13), (1, 14), (0, 20)] rfl (by decide +kernel)) (goodIn_c zc_wsX12_readsFormat_in [(1, 19), (1, 20), (1, 21), (1, 22), (1, 15), (1, 16), (1, 17), (1, 18), (1, 23), (2, 0), (2, 1), (2, 2), (2, 3), (3, 17), (3, 18), (3, 19)] rfl (by decide +kernel))) (goodIn_sub zB_X12_readsFormat_X120 zgw_X120))
set_option maxRecDepth 100000 in
theorem gX12_readsFormat_X12_number : GoodIn wsX12_readsFormat (wsV RX12 290 RX12 yX12_number wsX12_number) := goodIn_app (goodIn_r _ [80, 81, 82, 14] rfl (by decide +kernel)) ggX12_readsFormat_X12_number
set_option maxRecDepth 100000 in
theorem ggX12_readsFormat_X12_digits : GoodIn wsX12_readsFormat wsX12_digits := goodIn_hd (goodIn_c zc_wsX12_readsFormat_in [(3, 14)] rfl (by decide +kernel)) (goodIn_app (goodIn_app (goodIn_c zc_wsX12_readsFormat_in [(0, 19), (0, 2), (3, 15), (3, 16), (1, 1), (1, 2), (1, 3), (0, 13), (1, 4), (1, 5), (1, 6), (1, 7), (1, 8), (1, 9), (1, 10), (1, 11), (1, 12), (1, 13), (1, 14), (0, 20), (1, 19), (1, 20), (1, 21), (1, 22)] rfl (by decide +kernel)) (goodIn_c zc_wsX12_readsFormat_in [(1, 15), (1, 16), (1, 17), (1, 18), (1, 23), (2, 0), (2, 1), (2, 2), (2, 3)] rfl (by decide +kernel))) (goodIn_sub zB_X12_readsFormat_X120 zgw_X120))
set_option maxRecDepth 100000 in
theorem gX12_readsFormat_X12_digits : GoodIn wsX12_readsFormat (wsV RX12 259 RX12 yX12_digits wsX12_digits) := goodIn_app (goodIn_r _ [84, 85, 86, 14] rfl (by decide +kernel)) ggX12_readsFormat_X12_digits
set_option maxRecDepth 100000 in
theorem ggX12_readsFormat_X12_goesWell : GoodIn wsX12_readsFormat wsX12_goesWell := goodIn_hd (goodIn_c zc_wsX12_readsFormat_in [(1, 4)] rfl (by decide +kernel)) (goodIn_app (goodIn_c zc_wsX12_readsFormat_in [(1, 5)] rfl (by decide +kernel)) (goodIn_sub zB_X12_readsFormat_X120 zgw_X120))
set_option maxRecDepth 100000 in
theorem gX12_readsFormat_X12_goesWell : GoodIn wsX12_readsFormat (wsV RX12 231 RX12 yX12_goesWell wsX12_goesWell) := goodIn_app (goodIn_r _ [26, 27, 28, 14] rfl (by decide +kernel)) ggX12_readsFormat_X12_goesWell
set_option maxRecDepth 100000 in
theorem ggX12_readsFormat_X12_isIn : GoodIn wsX12_readsFormat wsX12_isIn := goodIn_r _ [92] rfl (by decide +kernel)
set_option maxRecDepth 100000 in
theorem gX12_readsFormat_X12_isIn : GoodIn wsX12_readsFormat (va_wsS RX12 263 yX12_isIn wsX12_isIn) := goodIn_app (goodIn_r _ [90, 91, 14] rfl (by decide +kernel)) ggX12_readsFormat_X12_isIn
set_option maxRecDepth 100000 in
theorem ggX12_readsFormat_X12_faults : GoodIn wsX12_readsFormat wsX12_faults := goodIn_hd (goodIn_c zc_wsX12_readsFormat_in [(2, 2)] rfl (by decide +kernel)) (goodIn_app (goodIn_c zc_wsX12_readsFormat_in [(1, 5), (2, 3)] rfl (by decide +kernel)) (goodIn_sub zB_X12_readsFormat_X120 zgw_X120))
set_option maxRecDepth 100000 in
theorem gX12_readsFormat_X12_faults : GoodIn wsX12_readsFormat (wsV RX12 239 RX12 yX12_faults wsX12_faults) := goodIn_app (goodIn_r _ [48, 49, 50, 14] rfl (by decide +kernel)) ggX12_readsFormat_X12_faults
set_option maxRecDepth 100000 in
theorem ggX12_readsFormat_X12_f : GoodIn wsX12_readsFormat wsX12_f := goodIn_hd (goodIn_c zc_wsX12_readsFormat_in [(2, 16)] rfl (by decide +kernel)) (goodIn_app (goodIn_c zc_wsX12_readsFormat_in [(0, 5)] rfl (by decide +kernel)) (goodIn_sub zB_X12_readsFormat_X120 zgw_X120))
set_option maxRecDepth 100000 in
theorem gX12_readsFormat_X12_f : GoodIn wsX12_readsFormat (wsV RX12 267 RX12 yX12_f wsX12_f) := goodIn_app (goodIn_r _ [62, 63, 64, 14] rfl (by decide +kernel)) ggX12_readsFormat_X12_f
theorem zB_X12_newNumber_X120 : ∀ w ∈ wsX120, w ∈ wsX12_newNumber := fun _ h => List.mem_cons_of_mem _ (List.mem_append_right _ h)
set_option maxRecDepth 100000 in
theorem ggX12_newNumber_X12_n : GoodIn wsX12_newNumber wsX12_n := goodIn_hd (goodIn_r _ [14] rfl (by decide +kernel)) (goodIn_app (goodIn_r _ [2] rfl (by decide +kernel)) (goodIn_sub zB_X12_newNumber_X120 zgw_X120))
set_option maxRecDepth 100000 in
theorem gX12_newNumber_X12_n : GoodIn wsX12_newNumber (wsV RX12 270 RX12 yX12_n wsX12_n) := goodIn_app (goodIn_r _ [10, 11, 12, 13] rfl (by decide +kernel)) ggX12_newNumber_X12_n
noncomputable def zc_wsX12_readsInput : List (List Cond) := [wsX12_readsInput_r1, wsX12_readsInput_r2, wsX12_readsInput_r3, wsX12_readsInput_r4, wsX120]
set_option maxRecDepth 20000 in
theorem zc_wsX12_readsInput_in : ∀ l ∈ zc_wsX12_readsInput, ∀ w ∈ l, w ∈ wsX12_readsInput := by
  intro l hl
  unfold zc_wsX12_readsInput at hl
  rcases List.mem_cons.mp hl with e | hl
  · rw [e]
    exact fun w h => List.mem_cons_of_mem _ (List.mem_append_left _ (List.mem_append_left _ h))
  rcases List.mem_cons.mp hl with e | hl
  · rw [e]
    exact fun w h => List.mem_cons_of_mem _ (List.mem_append_left _ (List.mem_append_right _ (List.mem_append_left _ h)))
  rcases List.mem_cons.mp hl with e | hl
  · rw [e]
    exact fun w h => List.mem_cons_of_mem _ (List.mem_append_left _ (List.mem_append_right _ (List.mem_append_right _ (List.mem_append_left _ h))))
  rcases List.mem_cons.mp hl with e | hl
  · rw [e]
    exact fun w h => List.mem_cons_of_mem _ (List.mem_append_left _ (List.mem_append_right _ (List.mem_append_right _ (List.mem_append_right _ h))))
  rcases List.mem_cons.mp hl with e | hl
  · rw [e]
    exact fun w h => List.mem_cons_of_mem _ (List.mem_append_right _ h)
  cases hl
theorem zB_X12_readsInput_X120 : ∀ w ∈ wsX120, w ∈ wsX12_readsInput := fun _ h => List.mem_cons_of_mem _ (List.mem_append_right _ h)
set_option maxRecDepth 100000 in
theorem ggX12_readsInput_X12_newName : GoodIn wsX12_readsInput wsX12_newName := goodIn_hd (goodIn_c zc_wsX12_readsInput_in [(0, 11)] rfl (by decide +kernel)) (goodIn_app (goodIn_app (goodIn_c zc_wsX12_readsInput_in [(0, 2), (0, 12), (0, 13), (0, 14), (0, 10), (0, 15), (0, 16), (0, 17), (0, 18), (0, 19), (0, 20), (0, 21), (0, 22), (0, 23), (1, 0), (1, 1), (1, 2), (1, 3), (1, 4), (1, 5), (1, 6), (1, 7), (1, 8), (1, 9)] rfl (by decide +kernel)) (goodIn_app (goodIn_c zc_wsX12_readsInput_in [(1, 10), (1, 11), (1, 12), (1, 13), (1, 14), (1, 15), (1, 16), (1, 17), (1, 18), (1, 19), (1, 20), (1, 21), (1, 22), (1, 23), (2, 0), (2, 1), (2, 2), (2, 3), (2, 4), (2, 5), (2, 6), (2, 7), (2, 8), (2, 9)] rfl (by decide +kernel)) (goodIn_c zc_wsX12_readsInput_in [(2, 10), (0, 5), (2, 11), (2, 12), (2, 13), (2, 14), (2, 15), (2, 16), (2, 17), (2, 18), (2, 19), (0, 4), (2, 20), (2, 21), (2, 22), (2, 23), (3, 0)] rfl (by decide +kernel)))) (goodIn_sub zB_X12_readsInput_X120 zgw_X120))
set_option maxRecDepth 100000 in
theorem gX12_readsInput_X12_newName : GoodIn wsX12_readsInput (wsV RX12 282 RX12 yX12_newName wsX12_newName) := goodIn_app (goodIn_r _ [8, 9, 10, 11] rfl (by decide +kernel)) ggX12_readsInput_X12_newName
set_option maxRecDepth 100000 in
theorem ggX12_readsInput_X12_signed : GoodIn wsX12_readsInput wsX12_signed := goodIn_hd (goodIn_c zc_wsX12_readsInput_in [(3, 4)] rfl (by decide +kernel)) (goodIn_app (goodIn_app (goodIn_c zc_wsX12_readsInput_in [(0, 16), (0, 2), (0, 22), (0, 23), (1, 0), (0, 10), (1, 1), (1, 2), (1, 3), (1, 4), (1, 5), (1, 6), (1, 7), (1, 8), (1, 9), (1, 10), (1, 11), (0, 17), (3, 5), (3, 6), (3, 7), (3, 8), (3, 9), (3, 10)] rfl (by decide +kernel)) (goodIn_c zc_wsX12_readsInput_in [(1, 16), (1, 17), (1, 18), (1, 19), (1, 12), (1, 13), (1, 14), (1, 15), (1, 20), (1, 21), (1, 22), (1, 23), (2, 0), (3, 11), (3, 12), (3, 13)] rfl (by decide +kernel))) (goodIn_sub zB_X12_readsInput_X120 zgw_X120))
set_option maxRecDepth 100000 in
theorem gX12_readsInput_X12_signed : GoodIn wsX12_readsInput (wsV RX12 302 RX12 yX12_signed wsX12_signed) := goodIn_app (goodIn_r _ [74, 75, 76, 11] rfl (by decide +kernel)) ggX12_readsInput_X12_signed
set_option maxRecDepth 100000 in
theorem ggX12_readsInput_X12_goesWell : GoodIn wsX12_readsInput wsX12_goesWell := goodIn_hd (goodIn_c zc_wsX12_readsInput_in [(1, 1)] rfl (by decide +kernel)) (goodIn_app (goodIn_c zc_wsX12_readsInput_in [(1, 2)] rfl (by decide +kernel)) (goodIn_sub zB_X12_readsInput_X120 zgw_X120))
set_option maxRecDepth 100000 in
theorem gX12_readsInput_X12_goesWell : GoodIn wsX12_readsInput (wsV RX12 231 RX12 yX12_goesWell wsX12_goesWell) := goodIn_app (goodIn_r _ [23, 24, 25, 11] rfl (by decide +kernel)) ggX12_readsInput_X12_goesWell
set_option maxRecDepth 100000 in
theorem ggX12_readsInput_X12_faults : GoodIn wsX12_readsInput wsX12_faults := goodIn_hd (goodIn_c zc_wsX12_readsInput_in [(1, 23)] rfl (by decide +kernel)) (goodIn_app (goodIn_c zc_wsX12_readsInput_in [(1, 2), (2, 0)] rfl (by decide +kernel)) (goodIn_sub zB_X12_readsInput_X120 zgw_X120))
set_option maxRecDepth 100000 in
theorem gX12_readsInput_X12_faults : GoodIn wsX12_readsInput (wsV RX12 239 RX12 yX12_faults wsX12_faults) := goodIn_app (goodIn_r _ [45, 46, 47, 11] rfl (by decide +kernel)) ggX12_readsInput_X12_faults
set_option maxRecDepth 100000 in
theorem ggX12_readsInput_X12_newNumber : GoodIn wsX12_readsInput wsX12_newNumber := goodIn_hd (goodIn_c zc_wsX12_readsInput_in [(3, 17)] rfl (by decide +kernel)) (goodIn_app (goodIn_c zc_wsX12_readsInput_in [(0, 4), (0, 5), (2, 20), (3, 18), (3, 19), (3, 20), (3, 21), (3, 22), (3, 23), (2, 21), (2, 22), (2, 23), (0, 10), (3, 0)] rfl (by decide +kernel)) (goodIn_sub zB_X12_readsInput_X120 zgw_X120))
set_option maxRecDepth 100000 in
theorem gX12_readsInput_X12_newNumber : GoodIn wsX12_readsInput (wsV RX12 305 RX12 yX12_newNumber wsX12_newNumber) := goodIn_app (goodIn_r _ [87, 88, 89, 11] rfl (by decide +kernel)) ggX12_readsInput_X12_newNumber
set_option maxRecDepth 100000 in
theorem ggX12_readsInput_X12_n : GoodIn wsX12_readsInput wsX12_n := goodIn_hd (goodIn_c zc_wsX12_readsInput_in [(3, 0)] rfl (by decide +kernel)) (goodIn_app (goodIn_c zc_wsX12_readsInput_in [(0, 5)] rfl (by decide +kernel)) (goodIn_sub zB_X12_readsInput_X120 zgw_X120))
set_option maxRecDepth 100000 in
theorem gX12_readsInput_X12_n : GoodIn wsX12_readsInput (wsV RX12 270 RX12 yX12_n wsX12_n) := goodIn_app (goodIn_r _ [70, 71, 72, 11] rfl (by decide +kernel)) ggX12_readsInput_X12_n
noncomputable def zc_wsX12_readsWhat : List (List Cond) := [wsX12_readsWhat_r1, wsX12_readsWhat_r2, wsX12_readsWhat_r3, wsX12_readsWhat_r4, wsX120]
set_option maxRecDepth 20000 in
theorem zc_wsX12_readsWhat_in : ∀ l ∈ zc_wsX12_readsWhat, ∀ w ∈ l, w ∈ wsX12_readsWhat := by
  intro l hl
  unfold zc_wsX12_readsWhat at hl
  rcases List.mem_cons.mp hl with e | hl
  · rw [e]
    exact fun w h => List.mem_cons_of_mem _ (List.mem_append_left _ (List.mem_append_left _ h))
  rcases List.mem_cons.mp hl with e | hl
  · rw [e]
    exact fun w h => List.mem_cons_of_mem _ (List.mem_append_left _ (List.mem_append_right _ (List.mem_append_left _ h)))
  rcases List.mem_cons.mp hl with e | hl
  · rw [e]
    exact fun w h => List.mem_cons_of_mem _ (List.mem_append_left _ (List.mem_append_right _ (List.mem_append_right _ (List.mem_append_left _ h))))
  rcases List.mem_cons.mp hl with e | hl
  · rw [e]
    exact fun w h => List.mem_cons_of_mem _ (List.mem_append_left _ (List.mem_append_right _ (List.mem_append_right _ (List.mem_append_right _ h))))
  rcases List.mem_cons.mp hl with e | hl
  · rw [e]
    exact fun w h => List.mem_cons_of_mem _ (List.mem_append_right _ h)
  cases hl
theorem zB_X12_readsWhat_X120 : ∀ w ∈ wsX120, w ∈ wsX12_readsWhat := fun _ h => List.mem_cons_of_mem _ (List.mem_append_right _ h)
set_option maxRecDepth 100000 in
theorem ggX12_readsWhat_X12_goesWell : GoodIn wsX12_readsWhat wsX12_goesWell := goodIn_hd (goodIn_c zc_wsX12_readsWhat_in [(0, 8)] rfl (by decide +kernel)) (goodIn_app (goodIn_c zc_wsX12_readsWhat_in [(0, 9)] rfl (by decide +kernel)) (goodIn_sub zB_X12_readsWhat_X120 zgw_X120))
set_option maxRecDepth 100000 in
theorem gX12_readsWhat_X12_goesWell : GoodIn wsX12_readsWhat (wsV RX12 231 RX12 yX12_goesWell wsX12_goesWell) := goodIn_app (goodIn_r _ [5, 6, 7, 8] rfl (by decide +kernel)) ggX12_readsWhat_X12_goesWell
set_option maxRecDepth 100000 in
theorem ggX12_readsWhat_X12_here : GoodIn wsX12_readsWhat wsX12_here := goodIn_hd (goodIn_c zc_wsX12_readsWhat_in [(0, 13)] rfl (by decide +kernel)) (goodIn_app (goodIn_c zc_wsX12_readsWhat_in [(0, 1), (0, 14), (0, 15), (0, 16), (0, 7), (0, 17), (0, 18), (0, 19)] rfl (by decide +kernel)) (goodIn_sub zB_X12_readsWhat_X120 zgw_X120))
set_option maxRecDepth 100000 in
theorem gX12_readsWhat_X12_here : GoodIn wsX12_readsWhat (wsV RX12 235 RX12 yX12_here wsX12_here) := goodIn_app (goodIn_r _ [11, 12, 13, 8] rfl (by decide +kernel)) ggX12_readsWhat_X12_here
set_option maxRecDepth 100000 in
theorem ggX12_readsWhat_X12_isDigit : GoodIn wsX12_readsWhat wsX12_isDigit := goodIn_hd (goodIn_c zc_wsX12_readsWhat_in [(0, 23)] rfl (by decide +kernel)) (goodIn_app (goodIn_c zc_wsX12_readsWhat_in [(0, 14), (0, 15), (0, 16), (0, 7), (0, 17), (0, 18), (0, 19)] rfl (by decide +kernel)) (goodIn_sub zB_X12_readsWhat_X120 zgw_X120))
set_option maxRecDepth 100000 in
theorem gX12_readsWhat_X12_isDigit : GoodIn wsX12_readsWhat (wsV RX12 246 RX12 yX12_isDigit wsX12_isDigit) := goodIn_app (goodIn_r _ [21, 22, 23, 8] rfl (by decide +kernel)) ggX12_readsWhat_X12_isDigit
set_option maxRecDepth 100000 in
theorem ggX12_readsWhat_X12_signed : GoodIn wsX12_readsWhat wsX12_signed := goodIn_hd (goodIn_c zc_wsX12_readsWhat_in [(1, 3)] rfl (by decide +kernel)) (goodIn_app (goodIn_app (goodIn_c zc_wsX12_readsWhat_in [(0, 1), (1, 4), (0, 4), (0, 5), (0, 6), (0, 7), (0, 8), (0, 9), (0, 10), (0, 11), (0, 12), (0, 13), (0, 14), (0, 15), (0, 16), (0, 17), (0, 18), (0, 19), (1, 5), (1, 6), (1, 7), (1, 8), (1, 9), (1, 10)] rfl (by decide +kernel)) (goodIn_c zc_wsX12_readsWhat_in [(0, 20), (0, 21), (0, 22), (0, 23), (1, 11), (1, 12), (1, 13), (1, 14), (1, 15), (1, 16), (1, 17), (1, 18), (1, 19), (1, 20), (1, 21), (1, 22)] rfl (by decide +kernel))) (goodIn_sub zB_X12_readsWhat_X120 zgw_X120))
set_option maxRecDepth 100000 in
theorem gX12_readsWhat_X12_signed : GoodIn wsX12_readsWhat (wsV RX12 302 RX12 yX12_signed wsX12_signed) := goodIn_app (goodIn_r _ [25, 26, 27, 8] rfl (by decide +kernel)) ggX12_readsWhat_X12_signed
set_option maxRecDepth 100000 in
theorem ggX12_readsWhat_X12_toldNumber : GoodIn wsX12_readsWhat wsX12_toldNumber := goodIn_hd (goodIn_c zc_wsX12_readsWhat_in [(2, 2)] rfl (by decide +kernel)) (goodIn_app (goodIn_app (goodIn_c zc_wsX12_readsWhat_in [(1, 4), (2, 3), (2, 4), (2, 5), (0, 7), (2, 6), (0, 1), (0, 19), (2, 7), (2, 8), (2, 9), (2, 10), (0, 4), (0, 5), (0, 6), (0, 8), (0, 9), (0, 10), (0, 11), (0, 12), (0, 13), (0, 14), (0, 15), (0, 16)] rfl (by decide +kernel)) (goodIn_app (goodIn_c zc_wsX12_readsWhat_in [(0, 17), (0, 18), (1, 11), (1, 12), (1, 13), (1, 14), (0, 20), (0, 21), (0, 22), (0, 23), (1, 15), (1, 16), (1, 17), (1, 18), (1, 19), (2, 11), (2, 12), (2, 13), (2, 14), (2, 15), (2, 16), (2, 17), (2, 18), (2, 19)] rfl (by decide +kernel)) (goodIn_c zc_wsX12_readsWhat_in [(2, 20), (2, 21), (2, 22), (2, 23), (3, 0), (3, 1), (3, 2)] rfl (by decide +kernel)))) (goodIn_sub zB_X12_readsWhat_X120 zgw_X120))
set_option maxRecDepth 100000 in
theorem gX12_readsWhat_X12_toldNumber : GoodIn wsX12_readsWhat (wsV RX12 310 RX12 yX12_toldNumber wsX12_toldNumber) := goodIn_app (goodIn_r _ [48, 49, 50, 8] rfl (by decide +kernel)) ggX12_readsWhat_X12_toldNumber
noncomputable def zc_wsX12_readsOp : List (List Cond) := [wsX12_readsOp_r1, wsX12_readsOp_r2, wsX120]
set_option maxRecDepth 20000 in
theorem zc_wsX12_readsOp_in : ∀ l ∈ zc_wsX12_readsOp, ∀ w ∈ l, w ∈ wsX12_readsOp := by
  intro l hl
  unfold zc_wsX12_readsOp at hl
  rcases List.mem_cons.mp hl with e | hl
  · rw [e]
    exact fun w h => List.mem_cons_of_mem _ (List.mem_append_left _ (List.mem_append_left _ h))
  rcases List.mem_cons.mp hl with e | hl
  · rw [e]
    exact fun w h => List.mem_cons_of_mem _ (List.mem_append_left _ (List.mem_append_right _ h))
  rcases List.mem_cons.mp hl with e | hl
  · rw [e]
    exact fun w h => List.mem_cons_of_mem _ (List.mem_append_right _ h)
  cases hl
theorem zB_X12_readsOp_X120 : ∀ w ∈ wsX120, w ∈ wsX12_readsOp := fun _ h => List.mem_cons_of_mem _ (List.mem_append_right _ h)
set_option maxRecDepth 100000 in
theorem ggX12_readsOp_X12_goesWell : GoodIn wsX12_readsOp wsX12_goesWell := goodIn_hd (goodIn_c zc_wsX12_readsOp_in [(0, 6)] rfl (by decide +kernel)) (goodIn_app (goodIn_c zc_wsX12_readsOp_in [(0, 7)] rfl (by decide +kernel)) (goodIn_sub zB_X12_readsOp_X120 zgw_X120))
set_option maxRecDepth 100000 in
theorem gX12_readsOp_X12_goesWell : GoodIn wsX12_readsOp (wsV RX12 231 RX12 yX12_goesWell wsX12_goesWell) := goodIn_app (goodIn_r _ [3, 4, 5, 6] rfl (by decide +kernel)) ggX12_readsOp_X12_goesWell
set_option maxRecDepth 100000 in
theorem ggX12_readsOp_X12_here : GoodIn wsX12_readsOp wsX12_here := goodIn_hd (goodIn_c zc_wsX12_readsOp_in [(0, 11)] rfl (by decide +kernel)) (goodIn_app (goodIn_c zc_wsX12_readsOp_in [(0, 0), (0, 12), (0, 13), (0, 14), (0, 5), (0, 15), (0, 16), (0, 17)] rfl (by decide +kernel)) (goodIn_sub zB_X12_readsOp_X120 zgw_X120))
set_option maxRecDepth 100000 in
theorem gX12_readsOp_X12_here : GoodIn wsX12_readsOp (wsV RX12 235 RX12 yX12_here wsX12_here) := goodIn_app (goodIn_r _ [9, 10, 11, 6] rfl (by decide +kernel)) ggX12_readsOp_X12_here
set_option maxRecDepth 100000 in
theorem ggX12_readsOp_X12_word : GoodIn wsX12_readsOp wsX12_word := goodIn_hd (goodIn_c zc_wsX12_readsOp_in [(0, 21)] rfl (by decide +kernel)) (goodIn_app (goodIn_app (goodIn_c zc_wsX12_readsOp_in [(0, 0), (0, 1), (0, 2), (0, 3), (0, 4), (0, 5), (0, 6), (0, 7), (0, 8), (0, 9), (0, 10), (0, 11), (0, 12), (0, 13), (0, 14), (0, 15), (0, 16), (0, 17), (0, 22), (0, 23), (1, 0), (1, 1), (1, 2), (1, 3)] rfl (by decide +kernel)) (goodIn_c zc_wsX12_readsOp_in [(1, 4), (1, 5), (1, 6), (1, 7), (1, 8), (1, 9), (1, 10)] rfl (by decide +kernel))) (goodIn_sub zB_X12_readsOp_X120 zgw_X120))
set_option maxRecDepth 100000 in
theorem gX12_readsOp_X12_word : GoodIn wsX12_readsOp (wsV RX12 249 RX12 yX12_word wsX12_word) := goodIn_app (goodIn_r _ [19, 20, 21, 6] rfl (by decide +kernel)) ggX12_readsOp_X12_word
set_option maxRecDepth 100000 in
theorem ggX12_readsOp_X12_own : GoodIn wsX12_readsOp wsX12_own := goodIn_hd (goodIn_c zc_wsX12_readsOp_in [(1, 14)] rfl (by decide +kernel)) (goodIn_app (goodIn_c zc_wsX12_readsOp_in [(1, 15), (0, 1), (0, 0), (0, 17)] rfl (by decide +kernel)) (goodIn_sub zB_X12_readsOp_X120 zgw_X120))
set_option maxRecDepth 100000 in
theorem gX12_readsOp_X12_own : GoodIn wsX12_readsOp (wsV RX12 252 RX12 yX12_own wsX12_own) := goodIn_app (goodIn_r _ [36, 37, 38, 6] rfl (by decide +kernel)) ggX12_readsOp_X12_own
set_option maxRecDepth 100000 in
theorem ggX12_readsOp_X12_faults : GoodIn wsX12_readsOp wsX12_faults := goodIn_hd (goodIn_c zc_wsX12_readsOp_in [(1, 9)] rfl (by decide +kernel)) (goodIn_app (goodIn_c zc_wsX12_readsOp_in [(0, 7), (1, 10)] rfl (by decide +kernel)) (goodIn_sub zB_X12_readsOp_X120 zgw_X120))
set_option maxRecDepth 100000 in
theorem gX12_readsOp_X12_faults : GoodIn wsX12_readsOp (wsV RX12 239 RX12 yX12_faults wsX12_faults) := goodIn_app (goodIn_r _ [31, 32, 33, 6] rfl (by decide +kernel)) ggX12_readsOp_X12_faults
noncomputable def zc_wsX12_readsLet : List (List Cond) := [wsX12_readsLet_r1, wsX12_readsLet_r2, wsX12_readsLet_r3, wsX12_readsLet_r4, wsX12_readsLet_r5, wsX120]
set_option maxRecDepth 20000 in
theorem zc_wsX12_readsLet_in : ∀ l ∈ zc_wsX12_readsLet, ∀ w ∈ l, w ∈ wsX12_readsLet := by
  intro l hl
  unfold zc_wsX12_readsLet at hl
  rcases List.mem_cons.mp hl with e | hl
  · rw [e]
    exact fun w h => List.mem_cons_of_mem _ (List.mem_append_left _ (List.mem_append_left _ h))
  rcases List.mem_cons.mp hl with e | hl
  · rw [e]
    exact fun w h => List.mem_cons_of_mem _ (List.mem_append_left _ (List.mem_append_right _ (List.mem_append_left _ h)))
  rcases List.mem_cons.mp hl with e | hl
  · rw [e]
    exact fun w h => List.mem_cons_of_mem _ (List.mem_append_left _ (List.mem_append_right _ (List.mem_append_right _ (List.mem_append_left _ h))))
  rcases List.mem_cons.mp hl with e | hl
  · rw [e]
    exact fun w h => List.mem_cons_of_mem _ (List.mem_append_left _ (List.mem_append_right _ (List.mem_append_right _ (List.mem_append_right _ (List.mem_append_left _ h)))))
  rcases List.mem_cons.mp hl with e | hl
  · rw [e]
    exact fun w h => List.mem_cons_of_mem _ (List.mem_append_left _ (List.mem_append_right _ (List.mem_append_right _ (List.mem_append_right _ (List.mem_append_right _ h)))))
  rcases List.mem_cons.mp hl with e | hl
  · rw [e]
    exact fun w h => List.mem_cons_of_mem _ (List.mem_append_right _ h)
  cases hl
theorem zB_X12_readsLet_X120 : ∀ w ∈ wsX120, w ∈ wsX12_readsLet := fun _ h => List.mem_cons_of_mem _ (List.mem_append_right _ h)
set_option maxRecDepth 100000 in
theorem ggX12_readsLet_X12_newName : GoodIn wsX12_readsLet wsX12_newName := goodIn_hd (goodIn_c zc_wsX12_readsLet_in [(0, 11)] rfl (by decide +kernel)) (goodIn_app (goodIn_app (goodIn_c zc_wsX12_readsLet_in [(0, 12), (0, 13), (0, 14), (0, 15), (0, 10), (0, 16), (0, 17), (0, 18), (0, 19), (0, 20), (0, 21), (0, 22), (0, 23), (1, 0), (1, 1), (1, 2), (1, 3), (1, 4), (1, 5), (1, 6), (1, 7), (1, 8), (1, 9), (1, 10)] rfl (by decide +kernel)) (goodIn_app (goodIn_c zc_wsX12_readsLet_in [(1, 11), (1, 12), (1, 13), (1, 14), (1, 15), (1, 16), (1, 17), (1, 18), (1, 19), (1, 20), (1, 21), (1, 22), (1, 23), (2, 0), (2, 1), (2, 2), (2, 3), (2, 4), (2, 5), (2, 6), (2, 7), (2, 8), (2, 9), (2, 10)] rfl (by decide +kernel)) (goodIn_c zc_wsX12_readsLet_in [(2, 11), (0, 2), (2, 12), (2, 13), (2, 14), (2, 15), (2, 16), (2, 17), (2, 18), (2, 19), (2, 20), (0, 1), (2, 21), (2, 22), (2, 23), (3, 0), (3, 1)] rfl (by decide +kernel)))) (goodIn_sub zB_X12_readsLet_X120 zgw_X120))
set_option maxRecDepth 100000 in
theorem gX12_readsLet_X12_newName : GoodIn wsX12_readsLet (wsV RX12 282 RX12 yX12_newName wsX12_newName) := goodIn_app (goodIn_r _ [8, 9, 10, 11] rfl (by decide +kernel)) ggX12_readsLet_X12_newName
set_option maxRecDepth 100000 in
theorem ggX12_readsLet_X12_mark : GoodIn wsX12_readsLet wsX12_mark := goodIn_hd (goodIn_c zc_wsX12_readsLet_in [(3, 5)] rfl (by decide +kernel)) (goodIn_app (goodIn_c zc_wsX12_readsLet_in [(0, 17), (0, 23), (1, 0), (1, 1), (0, 10), (1, 2), (1, 3), (1, 4), (1, 5), (1, 6), (1, 7), (1, 8), (1, 9), (1, 10), (1, 11), (1, 12), (0, 18), (1, 21), (1, 22), (1, 23), (2, 0), (2, 1)] rfl (by decide +kernel)) (goodIn_sub zB_X12_readsLet_X120 zgw_X120))
set_option maxRecDepth 100000 in
theorem gX12_readsLet_X12_mark : GoodIn wsX12_readsLet (wsV RX12 313 RX12 yX12_mark wsX12_mark) := goodIn_app (goodIn_r _ [75, 76, 77, 11] rfl (by decide +kernel)) ggX12_readsLet_X12_mark
set_option maxRecDepth 100000 in
theorem ggX12_readsLet_X12_readsWhat : GoodIn wsX12_readsLet wsX12_readsWhat := goodIn_hd (goodIn_c zc_wsX12_readsLet_in [(3, 9)] rfl (by decide +kernel)) (goodIn_app (goodIn_app (goodIn_c zc_wsX12_readsLet_in [(0, 0), (0, 17), (3, 10), (3, 11), (0, 23), (1, 0), (1, 1), (0, 10), (1, 2), (1, 3), (1, 4), (1, 5), (1, 6), (1, 7), (1, 8), (1, 9), (1, 10), (1, 11), (1, 12), (0, 18), (1, 17), (1, 18), (1, 19), (1, 20)] rfl (by decide +kernel)) (goodIn_app (goodIn_c zc_wsX12_readsLet_in [(3, 12), (3, 13), (3, 14), (3, 15), (0, 12), (3, 16), (3, 17), (3, 18), (3, 19), (3, 20), (3, 21), (1, 13), (1, 14), (1, 15), (1, 16), (1, 21), (1, 22), (1, 23), (2, 0), (2, 1), (3, 22), (3, 23), (4, 0), (4, 1)] rfl (by decide +kernel)) (goodIn_app (goodIn_c zc_wsX12_readsLet_in [(4, 2), (4, 3), (4, 4), (0, 13), (0, 14), (0, 15), (0, 16), (0, 19), (0, 20), (0, 21), (0, 22), (2, 2), (2, 3), (2, 4), (2, 5), (2, 6), (2, 17), (2, 18), (2, 19), (2, 20), (0, 1), (0, 2), (2, 21), (2, 22)] rfl (by decide +kernel)) (goodIn_c zc_wsX12_readsLet_in [(2, 23), (3, 0), (3, 1)] rfl (by decide +kernel))))) (goodIn_sub zB_X12_readsLet_X120 zgw_X120))
set_option maxRecDepth 100000 in
theorem gX12_readsLet_X12_readsWhat : GoodIn wsX12_readsLet (wsV RX12 316 RX12 yX12_readsWhat wsX12_readsWhat) := goodIn_app (goodIn_r _ [79, 80, 81, 11] rfl (by decide +kernel)) ggX12_readsLet_X12_readsWhat
set_option maxRecDepth 100000 in
theorem ggX12_readsLet_X12_readsOp : GoodIn wsX12_readsLet wsX12_readsOp := goodIn_hd (goodIn_c zc_wsX12_readsLet_in [(4, 8)] rfl (by decide +kernel)) (goodIn_app (goodIn_app (goodIn_c zc_wsX12_readsLet_in [(0, 17), (0, 12), (0, 23), (1, 0), (1, 1), (0, 10), (1, 2), (1, 3), (1, 4), (1, 5), (1, 6), (1, 7), (1, 8), (1, 9), (1, 10), (1, 11), (1, 12), (0, 18), (0, 19), (0, 20), (0, 21), (0, 22), (1, 13), (1, 14)] rfl (by decide +kernel)) (goodIn_c zc_wsX12_readsLet_in [(1, 15), (1, 16), (1, 17), (1, 18), (1, 19), (1, 20), (1, 21), (1, 22), (1, 23), (2, 0), (2, 1), (2, 2), (2, 3), (2, 4), (2, 5), (2, 6)] rfl (by decide +kernel))) (goodIn_sub zB_X12_readsLet_X120 zgw_X120))
set_option maxRecDepth 100000 in
theorem gX12_readsLet_X12_readsOp : GoodIn wsX12_readsLet (wsV RX12 319 RX12 yX12_readsOp wsX12_readsOp) := goodIn_app (goodIn_r _ [102, 103, 104, 11] rfl (by decide +kernel)) ggX12_readsLet_X12_readsOp
set_option maxRecDepth 100000 in
theorem ggX12_readsLet_X12_goesWell : GoodIn wsX12_readsLet wsX12_goesWell := goodIn_hd (goodIn_c zc_wsX12_readsLet_in [(1, 2)] rfl (by decide +kernel)) (goodIn_app (goodIn_c zc_wsX12_readsLet_in [(1, 3)] rfl (by decide +kernel)) (goodIn_sub zB_X12_readsLet_X120 zgw_X120))
set_option maxRecDepth 100000 in
theorem gX12_readsLet_X12_goesWell : GoodIn wsX12_readsLet (wsV RX12 231 RX12 yX12_goesWell wsX12_goesWell) := goodIn_app (goodIn_r _ [24, 25, 26, 11] rfl (by decide +kernel)) ggX12_readsLet_X12_goesWell
set_option maxRecDepth 100000 in
theorem ggX12_readsLet_X12_newNumber : GoodIn wsX12_readsLet wsX12_newNumber := goodIn_hd (goodIn_c zc_wsX12_readsLet_in [(4, 12)] rfl (by decide +kernel)) (goodIn_app (goodIn_c zc_wsX12_readsLet_in [(0, 1), (0, 2), (2, 21), (4, 13), (0, 3), (0, 5), (4, 14), (4, 15), (4, 16), (2, 22), (2, 23), (3, 0), (0, 10), (3, 1)] rfl (by decide +kernel)) (goodIn_sub zB_X12_readsLet_X120 zgw_X120))
set_option maxRecDepth 100000 in
theorem gX12_readsLet_X12_newNumber : GoodIn wsX12_readsLet (wsV RX12 305 RX12 yX12_newNumber wsX12_newNumber) := goodIn_app (goodIn_r _ [106, 107, 108, 11] rfl (by decide +kernel)) ggX12_readsLet_X12_newNumber
set_option maxRecDepth 100000 in
theorem ggX12_readsLet_X12_n : GoodIn wsX12_readsLet wsX12_n := goodIn_hd (goodIn_c zc_wsX12_readsLet_in [(3, 1)] rfl (by decide +kernel)) (goodIn_app (goodIn_c zc_wsX12_readsLet_in [(0, 2)] rfl (by decide +kernel)) (goodIn_sub zB_X12_readsLet_X120 zgw_X120))
set_option maxRecDepth 100000 in
theorem gX12_readsLet_X12_n : GoodIn wsX12_readsLet (wsV RX12 270 RX12 yX12_n wsX12_n) := goodIn_app (goodIn_r _ [71, 72, 73, 11] rfl (by decide +kernel)) ggX12_readsLet_X12_n
noncomputable def zc_wsX12_readsFixed : List (List Cond) := [wsX12_readsFixed_r1, wsX12_readsFixed_r2, wsX12_readsFixed_r3, wsX120]
set_option maxRecDepth 20000 in
theorem zc_wsX12_readsFixed_in : ∀ l ∈ zc_wsX12_readsFixed, ∀ w ∈ l, w ∈ wsX12_readsFixed := by
  intro l hl
  unfold zc_wsX12_readsFixed at hl
  rcases List.mem_cons.mp hl with e | hl
  · rw [e]
    exact fun w h => List.mem_cons_of_mem _ (List.mem_append_left _ (List.mem_append_left _ h))
  rcases List.mem_cons.mp hl with e | hl
  · rw [e]
    exact fun w h => List.mem_cons_of_mem _ (List.mem_append_left _ (List.mem_append_right _ (List.mem_append_left _ h)))
  rcases List.mem_cons.mp hl with e | hl
  · rw [e]
    exact fun w h => List.mem_cons_of_mem _ (List.mem_append_left _ (List.mem_append_right _ (List.mem_append_right _ h)))
  rcases List.mem_cons.mp hl with e | hl
  · rw [e]
    exact fun w h => List.mem_cons_of_mem _ (List.mem_append_right _ h)
  cases hl
theorem zB_X12_readsFixed_X120 : ∀ w ∈ wsX120, w ∈ wsX12_readsFixed := fun _ h => List.mem_cons_of_mem _ (List.mem_append_right _ h)
set_option maxRecDepth 100000 in
theorem ggX12_readsFixed_X12_toldNumber : GoodIn wsX12_readsFixed wsX12_toldNumber := goodIn_hd (goodIn_c zc_wsX12_readsFixed_in [(0, 6)] rfl (by decide +kernel)) (goodIn_app (goodIn_app (goodIn_c zc_wsX12_readsFixed_in [(0, 0), (0, 7), (0, 8), (0, 9), (0, 5), (0, 10), (0, 11), (0, 12), (0, 13), (0, 14), (0, 15), (0, 16), (0, 17), (0, 18), (0, 19), (0, 20), (0, 21), (0, 22), (0, 23), (1, 0), (1, 1), (1, 2), (1, 3), (1, 4)] rfl (by decide +kernel)) (goodIn_app (goodIn_c zc_wsX12_readsFixed_in [(1, 5), (1, 6), (1, 7), (1, 8), (1, 9), (1, 10), (1, 11), (1, 12), (1, 13), (1, 14), (1, 15), (1, 16), (1, 17), (1, 18), (1, 19), (1, 20), (1, 21), (1, 22), (1, 23), (2, 0), (2, 1), (2, 2), (2, 3), (2, 4)] rfl (by decide +kernel)) (goodIn_c zc_wsX12_readsFixed_in [(2, 5), (2, 6), (2, 7), (2, 8), (2, 9), (2, 10), (2, 11)] rfl (by decide +kernel)))) (goodIn_sub zB_X12_readsFixed_X120 zgw_X120))
set_option maxRecDepth 100000 in
theorem gX12_readsFixed_X12_toldNumber : GoodIn wsX12_readsFixed (wsV RX12 310 RX12 yX12_toldNumber wsX12_toldNumber) := goodIn_app (goodIn_r _ [3, 4, 5, 6] rfl (by decide +kernel)) ggX12_readsFixed_X12_toldNumber
set_option maxRecDepth 100000 in
theorem ggX12_readsFixed_X12_name : GoodIn wsX12_readsFixed wsX12_name := goodIn_hd (goodIn_c zc_wsX12_readsFixed_in [(0, 10)] rfl (by decide +kernel)) (goodIn_app (goodIn_app (goodIn_c zc_wsX12_readsFixed_in [(0, 11), (0, 0), (0, 12), (0, 13), (0, 14), (0, 15), (0, 5), (0, 16), (0, 17), (0, 18), (0, 19), (0, 20), (0, 21), (0, 22), (0, 23), (1, 0), (1, 1), (1, 2), (1, 3), (1, 4), (1, 5), (1, 6), (1, 7), (1, 8)] rfl (by decide +kernel)) (goodIn_c zc_wsX12_readsFixed_in [(1, 9), (1, 10), (1, 11), (1, 12), (1, 13), (1, 14), (1, 15), (1, 16), (1, 17), (1, 18), (1, 19), (1, 20), (1, 21), (1, 22), (1, 23), (2, 0)] rfl (by decide +kernel))) (goodIn_sub zB_X12_readsFixed_X120 zgw_X120))
set_option maxRecDepth 100000 in
theorem gX12_readsFixed_X12_name : GoodIn wsX12_readsFixed (wsV RX12 273 RX12 yX12_name wsX12_name) := goodIn_app (goodIn_r _ [8, 9, 10, 6] rfl (by decide +kernel)) ggX12_readsFixed_X12_name
set_option maxRecDepth 100000 in
theorem ggX12_readsFixed_X12_goesWell : GoodIn wsX12_readsFixed wsX12_goesWell := goodIn_hd (goodIn_c zc_wsX12_readsFixed_in [(0, 20)] rfl (by decide +kernel)) (goodIn_app (goodIn_c zc_wsX12_readsFixed_in [(0, 21)] rfl (by decide +kernel)) (goodIn_sub zB_X12_readsFixed_X120 zgw_X120))
set_option maxRecDepth 100000 in
theorem gX12_readsFixed_X12_goesWell : GoodIn wsX12_readsFixed (wsV RX12 231 RX12 yX12_goesWell wsX12_goesWell) := goodIn_app (goodIn_r _ [18, 19, 20, 6] rfl (by decide +kernel)) ggX12_readsFixed_X12_goesWell
set_option maxRecDepth 100000 in
theorem ggX12_readsFixed_X12_formatNamed : GoodIn wsX12_readsFixed wsX12_formatNamed := goodIn_hd (goodIn_c zc_wsX12_readsFixed_in [(2, 15)] rfl (by decide +kernel)) (goodIn_app (goodIn_c zc_wsX12_readsFixed_in [(2, 16), (2, 6), (2, 17), (2, 18), (2, 19), (2, 20), (0, 5), (2, 21)] rfl (by decide +kernel)) (goodIn_sub zB_X12_readsFixed_X120 zgw_X120))
set_option maxRecDepth 100000 in
theorem gX12_readsFixed_X12_formatNamed : GoodIn wsX12_readsFixed (wsV RX12 276 RX12 yX12_formatNamed wsX12_formatNamed) := goodIn_app (goodIn_r _ [61, 62, 63, 6] rfl (by decide +kernel)) ggX12_readsFixed_X12_formatNamed
set_option maxRecDepth 100000 in
theorem ggX12_readsFixed_X12_faults : GoodIn wsX12_readsFixed wsX12_faults := goodIn_hd (goodIn_c zc_wsX12_readsFixed_in [(1, 18)] rfl (by decide +kernel)) (goodIn_app (goodIn_c zc_wsX12_readsFixed_in [(0, 21), (1, 19)] rfl (by decide +kernel)) (goodIn_sub zB_X12_readsFixed_X120 zgw_X120))
set_option maxRecDepth 100000 in
theorem gX12_readsFixed_X12_faults : GoodIn wsX12_readsFixed (wsV RX12 239 RX12 yX12_faults wsX12_faults) := goodIn_app (goodIn_r _ [40, 41, 42, 6] rfl (by decide +kernel)) ggX12_readsFixed_X12_faults
set_option maxRecDepth 100000 in
theorem ggX12_readsFixed_X12_n : GoodIn wsX12_readsFixed wsX12_n := goodIn_hd (goodIn_c zc_wsX12_readsFixed_in [(2, 11)] rfl (by decide +kernel)) (goodIn_app (goodIn_c zc_wsX12_readsFixed_in [(2, 6)] rfl (by decide +kernel)) (goodIn_sub zB_X12_readsFixed_X120 zgw_X120))
set_option maxRecDepth 100000 in
theorem gX12_readsFixed_X12_n : GoodIn wsX12_readsFixed (wsV RX12 270 RX12 yX12_n wsX12_n) := goodIn_app (goodIn_r _ [57, 58, 59, 6] rfl (by decide +kernel)) ggX12_readsFixed_X12_n
noncomputable def zc_wsX12_readsGroup : List (List Cond) := [wsX12_readsGroup_r1, wsX12_readsGroup_r2, wsX12_readsGroup_r3, wsX120]
set_option maxRecDepth 20000 in
theorem zc_wsX12_readsGroup_in : ∀ l ∈ zc_wsX12_readsGroup, ∀ w ∈ l, w ∈ wsX12_readsGroup := by
  intro l hl
  unfold zc_wsX12_readsGroup at hl
  rcases List.mem_cons.mp hl with e | hl
  · rw [e]
    exact fun w h => List.mem_cons_of_mem _ (List.mem_append_left _ (List.mem_append_left _ h))
  rcases List.mem_cons.mp hl with e | hl
  · rw [e]
    exact fun w h => List.mem_cons_of_mem _ (List.mem_append_left _ (List.mem_append_right _ (List.mem_append_left _ h)))
  rcases List.mem_cons.mp hl with e | hl
  · rw [e]
    exact fun w h => List.mem_cons_of_mem _ (List.mem_append_left _ (List.mem_append_right _ (List.mem_append_right _ h)))
  rcases List.mem_cons.mp hl with e | hl
  · rw [e]
    exact fun w h => List.mem_cons_of_mem _ (List.mem_append_right _ h)
  cases hl
theorem zB_X12_readsGroup_X120 : ∀ w ∈ wsX120, w ∈ wsX12_readsGroup := fun _ h => List.mem_cons_of_mem _ (List.mem_append_right _ h)
set_option maxRecDepth 100000 in
theorem ggX12_readsGroup_X12_toldNumber : GoodIn wsX12_readsGroup wsX12_toldNumber := goodIn_hd (goodIn_c zc_wsX12_readsGroup_in [(0, 8)] rfl (by decide +kernel)) (goodIn_app (goodIn_app (goodIn_c zc_wsX12_readsGroup_in [(0, 0), (0, 9), (0, 10), (0, 11), (0, 7), (0, 12), (0, 13), (0, 14), (0, 15), (0, 16), (0, 17), (0, 18), (0, 19), (0, 20), (0, 21), (0, 22), (0, 23), (1, 0), (1, 1), (1, 2), (1, 3), (1, 4), (1, 5), (1, 6)] rfl (by decide +kernel)) (goodIn_app (goodIn_c zc_wsX12_readsGroup_in [(1, 7), (1, 8), (1, 9), (1, 10), (1, 11), (1, 12), (1, 13), (1, 14), (1, 15), (1, 16), (1, 17), (1, 18), (1, 19), (1, 20), (1, 21), (1, 22), (1, 23), (2, 0), (2, 1), (2, 2), (2, 3), (2, 4), (2, 5), (2, 6)] rfl (by decide +kernel)) (goodIn_c zc_wsX12_readsGroup_in [(0, 2), (0, 3), (2, 7), (2, 8), (2, 9), (2, 10), (2, 11)] rfl (by decide +kernel)))) (goodIn_sub zB_X12_readsGroup_X120 zgw_X120))
set_option maxRecDepth 100000 in
theorem gX12_readsGroup_X12_toldNumber : GoodIn wsX12_readsGroup (wsV RX12 310 RX12 yX12_toldNumber wsX12_toldNumber) := goodIn_app (goodIn_r _ [5, 6, 7, 8] rfl (by decide +kernel)) ggX12_readsGroup_X12_toldNumber
set_option maxRecDepth 100000 in
theorem ggX12_readsGroup_X12_goesWell : GoodIn wsX12_readsGroup wsX12_goesWell := goodIn_hd (goodIn_c zc_wsX12_readsGroup_in [(0, 22)] rfl (by decide +kernel)) (goodIn_app (goodIn_c zc_wsX12_readsGroup_in [(0, 23)] rfl (by decide +kernel)) (goodIn_sub zB_X12_readsGroup_X120 zgw_X120))
set_option maxRecDepth 100000 in
theorem gX12_readsGroup_X12_goesWell : GoodIn wsX12_readsGroup (wsV RX12 231 RX12 yX12_goesWell wsX12_goesWell) := goodIn_app (goodIn_r _ [20, 21, 22, 8] rfl (by decide +kernel)) ggX12_readsGroup_X12_goesWell
set_option maxRecDepth 100000 in
theorem ggX12_readsGroup_X12_faults : GoodIn wsX12_readsGroup wsX12_faults := goodIn_hd (goodIn_c zc_wsX12_readsGroup_in [(1, 20)] rfl (by decide +kernel)) (goodIn_app (goodIn_c zc_wsX12_readsGroup_in [(0, 23), (1, 21)] rfl (by decide +kernel)) (goodIn_sub zB_X12_readsGroup_X120 zgw_X120))
set_option maxRecDepth 100000 in
theorem gX12_readsGroup_X12_faults : GoodIn wsX12_readsGroup (wsV RX12 239 RX12 yX12_faults wsX12_faults) := goodIn_app (goodIn_r _ [42, 43, 44, 8] rfl (by decide +kernel)) ggX12_readsGroup_X12_faults
set_option maxRecDepth 100000 in
theorem ggX12_readsGroup_X12_n : GoodIn wsX12_readsGroup wsX12_n := goodIn_hd (goodIn_c zc_wsX12_readsGroup_in [(2, 11)] rfl (by decide +kernel)) (goodIn_app (goodIn_c zc_wsX12_readsGroup_in [(0, 3)] rfl (by decide +kernel)) (goodIn_sub zB_X12_readsGroup_X120 zgw_X120))
set_option maxRecDepth 100000 in
theorem gX12_readsGroup_X12_n : GoodIn wsX12_readsGroup (wsV RX12 270 RX12 yX12_n wsX12_n) := goodIn_app (goodIn_r _ [57, 58, 59, 8] rfl (by decide +kernel)) ggX12_readsGroup_X12_n
set_option maxRecDepth 100000 in
theorem ggX12_readsGroup_X12_lesser : GoodIn wsX12_readsGroup wsX12_lesser := goodIn_r _ [63] rfl (by decide +kernel)
set_option maxRecDepth 100000 in
theorem gX12_readsGroup_X12_lesser : GoodIn wsX12_readsGroup (va_wsS RX12 322 yX12_lesser wsX12_lesser) := goodIn_app (goodIn_r _ [61, 62, 8] rfl (by decide +kernel)) ggX12_readsGroup_X12_lesser
noncomputable def zc_wsX12_readsAnswer : List (List Cond) := [wsX12_readsAnswer_r1, wsX12_readsAnswer_r2, wsX12_readsAnswer_r3, wsX12_readsAnswer_r4, wsX120]
set_option maxRecDepth 20000 in
theorem zc_wsX12_readsAnswer_in : ∀ l ∈ zc_wsX12_readsAnswer, ∀ w ∈ l, w ∈ wsX12_readsAnswer := by
  intro l hl
  unfold zc_wsX12_readsAnswer at hl
  rcases List.mem_cons.mp hl with e | hl
  · rw [e]
    exact fun w h => List.mem_cons_of_mem _ (List.mem_append_left _ (List.mem_append_left _ h))
  rcases List.mem_cons.mp hl with e | hl
  · rw [e]
    exact fun w h => List.mem_cons_of_mem _ (List.mem_append_left _ (List.mem_append_right _ (List.mem_append_left _ h)))
  rcases List.mem_cons.mp hl with e | hl
  · rw [e]
    exact fun w h => List.mem_cons_of_mem _ (List.mem_append_left _ (List.mem_append_right _ (List.mem_append_right _ (List.mem_append_left _ h))))
  rcases List.mem_cons.mp hl with e | hl
  · rw [e]
    exact fun w h => List.mem_cons_of_mem _ (List.mem_append_left _ (List.mem_append_right _ (List.mem_append_right _ (List.mem_append_right _ h))))
  rcases List.mem_cons.mp hl with e | hl
  · rw [e]
    exact fun w h => List.mem_cons_of_mem _ (List.mem_append_right _ h)
  cases hl
theorem zB_X12_readsAnswer_X120 : ∀ w ∈ wsX120, w ∈ wsX12_readsAnswer := fun _ h => List.mem_cons_of_mem _ (List.mem_append_right _ h)
set_option maxRecDepth 100000 in
theorem ggX12_readsAnswer_X12_toldNumber : GoodIn wsX12_readsAnswer wsX12_toldNumber := goodIn_hd (goodIn_c zc_wsX12_readsAnswer_in [(0, 6)] rfl (by decide +kernel)) (goodIn_app (goodIn_app (goodIn_c zc_wsX12_readsAnswer_in [(0, 7), (0, 8), (0, 9), (0, 10), (0, 5), (0, 11), (0, 12), (0, 13), (0, 14), (0, 15), (0, 16), (0, 17), (0, 18), (0, 19), (0, 20), (0, 21), (0, 22), (0, 23), (1, 0), (1, 1), (1, 2), (1, 3), (1, 4), (1, 5)] rfl (by decide +kernel)) (goodIn_app (goodIn_c zc_wsX12_readsAnswer_in [(1, 6), (1, 7), (1, 8), (1, 9), (1, 10), (1, 11), (1, 12), (1, 13), (1, 14), (1, 15), (1, 16), (1, 17), (1, 18), (1, 19), (1, 20), (1, 21), (1, 22), (1, 23), (2, 0), (2, 1), (2, 2), (2, 3), (2, 4), (2, 5)] rfl (by decide +kernel)) (goodIn_c zc_wsX12_readsAnswer_in [(2, 6), (2, 7), (2, 8), (2, 9), (2, 10), (2, 11), (2, 12)] rfl (by decide +kernel)))) (goodIn_sub zB_X12_readsAnswer_X120 zgw_X120))
set_option maxRecDepth 100000 in
theorem gX12_readsAnswer_X12_toldNumber : GoodIn wsX12_readsAnswer (wsV RX12 310 RX12 yX12_toldNumber wsX12_toldNumber) := goodIn_app (goodIn_r _ [3, 4, 5, 6] rfl (by decide +kernel)) ggX12_readsAnswer_X12_toldNumber
set_option maxRecDepth 100000 in
theorem ggX12_readsAnswer_X12_must : GoodIn wsX12_readsAnswer wsX12_must := goodIn_hd (goodIn_c zc_wsX12_readsAnswer_in [(2, 16)] rfl (by decide +kernel)) (goodIn_app (goodIn_app (goodIn_c zc_wsX12_readsAnswer_in [(0, 7), (0, 14), (0, 15), (0, 16), (0, 5), (0, 17), (0, 12), (0, 18), (0, 19), (0, 20), (0, 21), (0, 22), (0, 23), (1, 0), (1, 1), (1, 2), (1, 3), (1, 4), (1, 5), (1, 6), (1, 7), (0, 13), (1, 8), (1, 9)] rfl (by decide +kernel)) (goodIn_c zc_wsX12_readsAnswer_in [(1, 10), (1, 11), (1, 12), (1, 13), (1, 14), (1, 15), (1, 16), (1, 17), (1, 18), (1, 19), (1, 20), (1, 21), (1, 22), (1, 23), (2, 0), (2, 1)] rfl (by decide +kernel))) (goodIn_sub zB_X12_readsAnswer_X120 zgw_X120))
set_option maxRecDepth 100000 in
theorem gX12_readsAnswer_X12_must : GoodIn wsX12_readsAnswer (wsV RX12 285 RX12 yX12_must wsX12_must) := goodIn_app (goodIn_r _ [62, 63, 64, 6] rfl (by decide +kernel)) ggX12_readsAnswer_X12_must
set_option maxRecDepth 100000 in
theorem ggX12_readsAnswer_X12_number : GoodIn wsX12_readsAnswer wsX12_number := goodIn_hd (goodIn_c zc_wsX12_readsAnswer_in [(2, 20)] rfl (by decide +kernel)) (goodIn_app (goodIn_app (goodIn_c zc_wsX12_readsAnswer_in [(0, 7), (2, 21), (2, 22), (2, 23), (0, 5), (3, 0), (0, 12), (3, 1), (3, 2), (0, 18), (0, 19), (0, 20), (0, 21), (0, 22), (0, 23), (1, 0), (1, 1), (1, 2), (1, 3), (1, 4), (1, 5), (1, 6), (1, 7), (0, 13)] rfl (by decide +kernel)) (goodIn_c zc_wsX12_readsAnswer_in [(1, 12), (1, 13), (1, 14), (1, 15), (1, 8), (1, 9), (1, 10), (1, 11), (1, 16), (1, 17), (1, 18), (1, 19), (1, 20), (3, 3), (3, 4), (3, 5)] rfl (by decide +kernel))) (goodIn_sub zB_X12_readsAnswer_X120 zgw_X120))
set_option maxRecDepth 100000 in
theorem gX12_readsAnswer_X12_number : GoodIn wsX12_readsAnswer (wsV RX12 290 RX12 yX12_number wsX12_number) := goodIn_app (goodIn_r _ [66, 67, 68, 6] rfl (by decide +kernel)) ggX12_readsAnswer_X12_number
set_option maxRecDepth 100000 in
theorem ggX12_readsAnswer_X12_goesWell : GoodIn wsX12_readsAnswer wsX12_goesWell := goodIn_hd (goodIn_c zc_wsX12_readsAnswer_in [(0, 21)] rfl (by decide +kernel)) (goodIn_app (goodIn_c zc_wsX12_readsAnswer_in [(0, 22)] rfl (by decide +kernel)) (goodIn_sub zB_X12_readsAnswer_X120 zgw_X120))
set_option maxRecDepth 100000 in
theorem gX12_readsAnswer_X12_goesWell : GoodIn wsX12_readsAnswer (wsV RX12 231 RX12 yX12_goesWell wsX12_goesWell) := goodIn_app (goodIn_r _ [19, 20, 21, 6] rfl (by decide +kernel)) ggX12_readsAnswer_X12_goesWell
set_option maxRecDepth 100000 in
theorem ggX12_readsAnswer_X12_n : GoodIn wsX12_readsAnswer wsX12_n := goodIn_hd (goodIn_c zc_wsX12_readsAnswer_in [(2, 12)] rfl (by decide +kernel)) (goodIn_app (goodIn_c zc_wsX12_readsAnswer_in [(2, 7)] rfl (by decide +kernel)) (goodIn_sub zB_X12_readsAnswer_X120 zgw_X120))
set_option maxRecDepth 100000 in
theorem gX12_readsAnswer_X12_n : GoodIn wsX12_readsAnswer (wsV RX12 270 RX12 yX12_n wsX12_n) := goodIn_app (goodIn_r _ [58, 59, 60, 6] rfl (by decide +kernel)) ggX12_readsAnswer_X12_n
noncomputable def zc_wsX12_readsStatement : List (List Cond) := [wsX12_readsStatement_r1, wsX12_readsStatement_r2, wsX12_readsStatement_r3, wsX12_readsStatement_r4, wsX12_readsStatement_r5, wsX12_readsStatement_r6, wsX12_readsStatement_r7, wsX120]
set_option maxRecDepth 20000 in
theorem zc_wsX12_readsStatement_in : ∀ l ∈ zc_wsX12_readsStatement, ∀ w ∈ l, w ∈ wsX12_readsStatement := by
  intro l hl
  unfold zc_wsX12_readsStatement at hl
  rcases List.mem_cons.mp hl with e | hl
  · rw [e]
    exact fun w h => List.mem_cons_of_mem _ (List.mem_append_left _ (List.mem_append_left _ h))
  rcases List.mem_cons.mp hl with e | hl
  · rw [e]
    exact fun w h => List.mem_cons_of_mem _ (List.mem_append_left _ (List.mem_append_right _ (List.mem_append_left _ h)))
  rcases List.mem_cons.mp hl with e | hl
  · rw [e]
    exact fun w h => List.mem_cons_of_mem _ (List.mem_append_left _ (List.mem_append_right _ (List.mem_append_right _ (List.mem_append_left _ h))))
  rcases List.mem_cons.mp hl with e | hl
  · rw [e]
    exact fun w h => List.mem_cons_of_mem _ (List.mem_append_left _ (List.mem_append_right _ (List.mem_append_right _ (List.mem_append_right _ (List.mem_append_left _ h)))))
  rcases List.mem_cons.mp hl with e | hl
  · rw [e]
    exact fun w h => List.mem_cons_of_mem _ (List.mem_append_left _ (List.mem_append_right _ (List.mem_append_right _ (List.mem_append_right _ (List.mem_append_right _ (List.mem_append_left _ h))))))
  rcases List.mem_cons.mp hl with e | hl
  · rw [e]
    exact fun w h => List.mem_cons_of_mem _ (List.mem_append_left _ (List.mem_append_right _ (List.mem_append_right _ (List.mem_append_right _ (List.mem_append_right _ (List.mem_append_right _ (List.mem_append_left _ h)))))))
  rcases List.mem_cons.mp hl with e | hl
  · rw [e]
    exact fun w h => List.mem_cons_of_mem _ (List.mem_append_left _ (List.mem_append_right _ (List.mem_append_right _ (List.mem_append_right _ (List.mem_append_right _ (List.mem_append_right _ (List.mem_append_right _ h)))))))
  rcases List.mem_cons.mp hl with e | hl
  · rw [e]
    exact fun w h => List.mem_cons_of_mem _ (List.mem_append_right _ h)
  cases hl
theorem zB_X12_readsStatement_X120 : ∀ w ∈ wsX120, w ∈ wsX12_readsStatement := fun _ h => List.mem_cons_of_mem _ (List.mem_append_right _ h)
set_option maxRecDepth 100000 in
theorem ggX12_readsStatement_X12_word : GoodIn wsX12_readsStatement wsX12_word := goodIn_hd (goodIn_c zc_wsX12_readsStatement_in [(0, 10)] rfl (by decide +kernel)) (goodIn_app (goodIn_app (goodIn_c zc_wsX12_readsStatement_in [(0, 11), (0, 0), (0, 12), (0, 13), (0, 14), (0, 9), (0, 15), (0, 16), (0, 17), (0, 18), (0, 19), (0, 20), (0, 21), (0, 22), (0, 23), (1, 0), (1, 1), (1, 2), (1, 3), (1, 4), (1, 5), (1, 6), (1, 7), (1, 8)] rfl (by decide +kernel)) (goodIn_c zc_wsX12_readsStatement_in [(1, 9), (1, 10), (1, 11), (1, 12), (1, 13), (1, 14), (1, 15)] rfl (by decide +kernel))) (goodIn_sub zB_X12_readsStatement_X120 zgw_X120))
set_option maxRecDepth 100000 in
theorem gX12_readsStatement_X12_word : GoodIn wsX12_readsStatement (wsV RX12 249 RX12 yX12_word wsX12_word) := goodIn_app (goodIn_r _ [7, 8, 9, 10] rfl (by decide +kernel)) ggX12_readsStatement_X12_word
set_option maxRecDepth 100000 in
theorem ggX12_readsStatement_X12_goesWell : GoodIn wsX12_readsStatement wsX12_goesWell := goodIn_hd (goodIn_c zc_wsX12_readsStatement_in [(0, 15)] rfl (by decide +kernel)) (goodIn_app (goodIn_c zc_wsX12_readsStatement_in [(0, 16)] rfl (by decide +kernel)) (goodIn_sub zB_X12_readsStatement_X120 zgw_X120))
set_option maxRecDepth 100000 in
theorem gX12_readsStatement_X12_goesWell : GoodIn wsX12_readsStatement (wsV RX12 231 RX12 yX12_goesWell wsX12_goesWell) := goodIn_app (goodIn_r _ [13, 14, 15, 10] rfl (by decide +kernel)) ggX12_readsStatement_X12_goesWell
set_option maxRecDepth 100000 in
theorem ggX12_readsStatement_X12_own : GoodIn wsX12_readsStatement wsX12_own := goodIn_hd (goodIn_c zc_wsX12_readsStatement_in [(1, 19)] rfl (by decide +kernel)) (goodIn_app (goodIn_c zc_wsX12_readsStatement_in [(1, 20), (0, 0), (0, 11), (1, 2)] rfl (by decide +kernel)) (goodIn_sub zB_X12_readsStatement_X120 zgw_X120))
set_option maxRecDepth 100000 in
theorem gX12_readsStatement_X12_own : GoodIn wsX12_readsStatement (wsV RX12 252 RX12 yX12_own wsX12_own) := goodIn_app (goodIn_r _ [41, 42, 43, 10] rfl (by decide +kernel)) ggX12_readsStatement_X12_own
set_option maxRecDepth 100000 in
theorem ggX12_readsStatement_X12_isBeginning : GoodIn wsX12_readsStatement wsX12_isBeginning := goodIn_r _ [48] rfl (by decide +kernel)
set_option maxRecDepth 100000 in
theorem gX12_readsStatement_X12_isBeginning : GoodIn wsX12_readsStatement (va_wsS RX12 325 yX12_isBeginning wsX12_isBeginning) := goodIn_app (goodIn_r _ [46, 47, 10] rfl (by decide +kernel)) ggX12_readsStatement_X12_isBeginning
set_option maxRecDepth 100000 in
theorem ggX12_readsStatement_X12_faults : GoodIn wsX12_readsStatement wsX12_faults := goodIn_hd (goodIn_c zc_wsX12_readsStatement_in [(1, 14)] rfl (by decide +kernel)) (goodIn_app (goodIn_c zc_wsX12_readsStatement_in [(0, 16), (1, 15)] rfl (by decide +kernel)) (goodIn_sub zB_X12_readsStatement_X120 zgw_X120))
set_option maxRecDepth 100000 in
theorem gX12_readsStatement_X12_faults : GoodIn wsX12_readsStatement (wsV RX12 239 RX12 yX12_faults wsX12_faults) := goodIn_app (goodIn_r _ [36, 37, 38, 10] rfl (by decide +kernel)) ggX12_readsStatement_X12_faults
set_option maxRecDepth 100000 in
theorem ggX12_readsStatement_X12_readsFormat : GoodIn wsX12_readsStatement wsX12_readsFormat := goodIn_hd (goodIn_c zc_wsX12_readsStatement_in [(2, 3)] rfl (by decide +kernel)) (goodIn_app (goodIn_app (goodIn_c zc_wsX12_readsStatement_in [(2, 4), (2, 5), (0, 0), (0, 4), (0, 1), (0, 2), (2, 6), (2, 7), (2, 8), (2, 9), (2, 10), (2, 11), (2, 12), (0, 9), (2, 13), (2, 14), (2, 15), (2, 16), (2, 17), (0, 11), (1, 2), (0, 6), (0, 7), (0, 8)] rfl (by decide +kernel)) (goodIn_app (goodIn_c zc_wsX12_readsStatement_in [(0, 10), (0, 12), (0, 13), (0, 14), (0, 15), (0, 16), (0, 17), (0, 18), (0, 19), (0, 20), (0, 21), (0, 22), (0, 23), (1, 0), (1, 1), (1, 3), (1, 4), (1, 5), (1, 6), (1, 7), (1, 8), (1, 9), (1, 10), (1, 11)] rfl (by decide +kernel)) (goodIn_app (goodIn_c zc_wsX12_readsStatement_in [(1, 12), (1, 13), (1, 14), (1, 15), (1, 16), (1, 17), (1, 18), (1, 19), (1, 20), (2, 18), (2, 19), (2, 20), (2, 21), (2, 22), (2, 23), (3, 0), (3, 1), (3, 2), (3, 3), (3, 4), (3, 5), (0, 3), (3, 6), (3, 7)] rfl (by decide +kernel)) (goodIn_c zc_wsX12_readsStatement_in [(3, 8), (3, 9), (3, 10), (3, 11), (3, 12), (3, 13), (3, 14), (3, 15), (3, 16), (3, 17), (3, 18), (3, 19), (3, 20), (3, 21), (3, 22), (3, 23), (4, 0), (4, 1), (4, 2), (4, 3)] rfl (by decide +kernel))))) (goodIn_sub zB_X12_readsStatement_X120 zgw_X120))
set_option maxRecDepth 100000 in
theorem gX12_readsStatement_X12_readsFormat : GoodIn wsX12_readsStatement (wsV RX12 328 RX12 yX12_readsFormat wsX12_readsFormat) := goodIn_app (goodIn_r _ [49, 50, 51, 10] rfl (by decide +kernel)) ggX12_readsStatement_X12_readsFormat
set_option maxRecDepth 100000 in
theorem ggX12_readsStatement_X12_number : GoodIn wsX12_readsStatement wsX12_number := goodIn_hd (goodIn_c zc_wsX12_readsStatement_in [(3, 18)] rfl (by decide +kernel)) (goodIn_app (goodIn_app (goodIn_c zc_wsX12_readsStatement_in [(0, 0), (3, 19), (3, 20), (3, 21), (0, 9), (3, 22), (0, 11), (3, 23), (4, 0), (0, 12), (0, 13), (0, 14), (0, 15), (0, 16), (0, 17), (0, 18), (0, 19), (0, 20), (0, 21), (0, 22), (0, 23), (1, 0), (1, 1), (1, 2)] rfl (by decide +kernel)) (goodIn_c zc_wsX12_readsStatement_in [(1, 7), (1, 8), (1, 9), (1, 10), (1, 3), (1, 4), (1, 5), (1, 6), (1, 11), (1, 12), (1, 13), (1, 14), (1, 15), (4, 1), (4, 2), (4, 3)] rfl (by decide +kernel))) (goodIn_sub zB_X12_readsStatement_X120 zgw_X120))
set_option maxRecDepth 100000 in
theorem gX12_readsStatement_X12_number : GoodIn wsX12_readsStatement (wsV RX12 290 RX12 yX12_number wsX12_number) := goodIn_app (goodIn_r _ [88, 89, 90, 10] rfl (by decide +kernel)) ggX12_readsStatement_X12_number
set_option maxRecDepth 100000 in
theorem ggX12_readsStatement_X12_readsInput : GoodIn wsX12_readsStatement wsX12_readsInput := goodIn_hd (goodIn_c zc_wsX12_readsStatement_in [(4, 7)] rfl (by decide +kernel)) (goodIn_app (goodIn_app (goodIn_c zc_wsX12_readsStatement_in [(4, 8), (4, 9), (0, 0), (4, 10), (0, 3), (0, 2), (4, 11), (2, 10), (2, 11), (2, 12), (0, 9), (2, 13), (2, 14), (2, 15), (2, 16), (2, 17), (0, 11), (1, 2), (0, 6), (0, 7), (0, 8), (0, 10), (0, 12), (0, 13)] rfl (by decide +kernel)) (goodIn_app (goodIn_c zc_wsX12_readsStatement_in [(0, 14), (0, 15), (0, 16), (0, 17), (0, 18), (0, 19), (0, 20), (0, 21), (0, 22), (0, 23), (1, 0), (1, 1), (1, 3), (1, 4), (1, 5), (1, 6), (1, 7), (1, 8), (1, 9), (1, 10), (1, 11), (1, 12), (1, 13), (1, 14)] rfl (by decide +kernel)) (goodIn_app (goodIn_c zc_wsX12_readsStatement_in [(1, 15), (1, 16), (1, 17), (1, 18), (1, 19), (1, 20), (2, 18), (2, 19), (2, 20), (2, 21), (0, 1), (2, 6), (2, 22), (2, 23), (3, 0), (3, 1), (3, 2), (3, 3), (3, 4), (3, 5), (3, 6), (3, 7), (3, 8), (3, 9)] rfl (by decide +kernel)) (goodIn_c zc_wsX12_readsStatement_in [(3, 10), (4, 12), (4, 13), (4, 14), (4, 15), (3, 19), (3, 20), (3, 21), (3, 22), (3, 23), (4, 0), (4, 1), (4, 2), (4, 3), (4, 16), (4, 17), (4, 18), (4, 19), (4, 20), (4, 21), (4, 22), (4, 23), (5, 0), (5, 1)] rfl (by decide +kernel))))) (goodIn_sub zB_X12_readsStatement_X120 zgw_X120))
set_option maxRecDepth 100000 in
theorem gX12_readsStatement_X12_readsInput : GoodIn wsX12_readsStatement (wsV RX12 331 RX12 yX12_readsInput wsX12_readsInput) := goodIn_app (goodIn_r _ [101, 102, 103, 10] rfl (by decide +kernel)) ggX12_readsStatement_X12_readsInput
set_option maxRecDepth 100000 in
theorem ggX12_readsStatement_X12_readsLet : GoodIn wsX12_readsStatement wsX12_readsLet := goodIn_hd (goodIn_c zc_wsX12_readsStatement_in [(5, 5)] rfl (by decide +kernel)) (goodIn_app (goodIn_app (goodIn_c zc_wsX12_readsStatement_in [(5, 6), (0, 3), (0, 2), (4, 21), (4, 10), (4, 22), (4, 11), (2, 10), (2, 11), (2, 12), (0, 9), (2, 13), (0, 0), (2, 14), (2, 15), (2, 16), (2, 17), (0, 11), (1, 2), (0, 6), (0, 7), (0, 8), (0, 10), (0, 12)] rfl (by decide +kernel)) (goodIn_app (goodIn_c zc_wsX12_readsStatement_in [(0, 13), (0, 14), (0, 15), (0, 16), (0, 17), (0, 18), (0, 19), (0, 20), (0, 21), (0, 22), (0, 23), (1, 0), (1, 1), (1, 3), (1, 4), (1, 5), (1, 6), (1, 7), (1, 8), (1, 9), (1, 10), (1, 11), (1, 12), (1, 13)] rfl (by decide +kernel)) (goodIn_app (goodIn_c zc_wsX12_readsStatement_in [(1, 14), (1, 15), (1, 16), (1, 17), (1, 18), (1, 19), (1, 20), (2, 18), (2, 19), (2, 20), (2, 21), (0, 1), (2, 6), (2, 22), (2, 23), (3, 0), (3, 1), (3, 2), (3, 3), (3, 4), (3, 5), (3, 6), (3, 7), (3, 8)] rfl (by decide +kernel)) (goodIn_app (goodIn_c zc_wsX12_readsStatement_in [(3, 9), (3, 10), (5, 7), (5, 8), (5, 9), (5, 10), (5, 11), (5, 12), (5, 13), (5, 14), (5, 15), (2, 4), (4, 12), (4, 13), (4, 14), (4, 15), (3, 19), (3, 20), (3, 21), (3, 22), (3, 23), (4, 0), (4, 1), (4, 2)] rfl (by decide +kernel)) (goodIn_c zc_wsX12_readsStatement_in [(4, 3), (5, 16), (5, 17), (5, 18), (5, 19), (5, 20), (5, 21), (5, 22), (5, 23), (4, 16), (4, 17), (4, 18), (4, 19), (4, 20), (4, 23), (5, 0), (5, 1)] rfl (by decide +kernel)))))) (goodIn_sub zB_X12_readsStatement_X120 zgw_X120))
set_option maxRecDepth 100000 in
theorem gX12_readsStatement_X12_readsLet : GoodIn wsX12_readsStatement (wsV RX12 334 RX12 yX12_readsLet wsX12_readsLet) := goodIn_app (goodIn_r _ [123, 124, 125, 10] rfl (by decide +kernel)) ggX12_readsStatement_X12_readsLet
set_option maxRecDepth 100000 in
theorem ggX12_readsStatement_X12_readsFixed : GoodIn wsX12_readsStatement wsX12_readsFixed := goodIn_hd (goodIn_c zc_wsX12_readsStatement_in [(6, 3)] rfl (by decide +kernel)) (goodIn_app (goodIn_app (goodIn_c zc_wsX12_readsStatement_in [(0, 0), (4, 23), (5, 16), (5, 17), (5, 18), (0, 9), (5, 19), (2, 14), (2, 15), (2, 16), (2, 17), (0, 11), (1, 2), (0, 6), (0, 7), (0, 8), (0, 10), (0, 12), (0, 13), (0, 14), (0, 15), (0, 16), (0, 17), (0, 18)] rfl (by decide +kernel)) (goodIn_app (goodIn_c zc_wsX12_readsStatement_in [(0, 19), (0, 20), (0, 21), (0, 22), (0, 23), (1, 0), (1, 1), (1, 3), (1, 4), (1, 5), (1, 6), (1, 7), (1, 8), (1, 9), (1, 10), (1, 11), (1, 12), (1, 13), (1, 14), (1, 15), (1, 16), (1, 17), (1, 18), (1, 19)] rfl (by decide +kernel)) (goodIn_c zc_wsX12_readsStatement_in [(1, 20), (3, 2), (3, 3), (3, 4), (3, 5), (0, 3), (0, 2), (3, 6), (3, 7), (3, 8), (3, 9), (3, 10), (2, 18), (2, 19), (2, 20), (2, 21), (0, 1), (2, 6), (2, 22), (2, 23), (3, 0), (3, 1)] rfl (by decide +kernel)))) (goodIn_sub zB_X12_readsStatement_X120 zgw_X120))
set_option maxRecDepth 100000 in
theorem gX12_readsStatement_X12_readsFixed : GoodIn wsX12_readsStatement (wsV RX12 337 RX12 yX12_readsFixed wsX12_readsFixed) := goodIn_app (goodIn_r _ [145, 146, 147, 10] rfl (by decide +kernel)) ggX12_readsStatement_X12_readsFixed
set_option maxRecDepth 100000 in
theorem ggX12_readsStatement_X12_readsGroup : GoodIn wsX12_readsStatement wsX12_readsGroup := goodIn_hd (goodIn_c zc_wsX12_readsStatement_in [(6, 7)] rfl (by decide +kernel)) (goodIn_app (goodIn_app (goodIn_c zc_wsX12_readsStatement_in [(0, 0), (5, 1), (0, 3), (0, 2), (5, 16), (5, 17), (5, 18), (0, 9), (5, 19), (2, 14), (2, 15), (2, 16), (2, 17), (0, 11), (1, 2), (0, 6), (0, 7), (0, 8), (0, 10), (0, 12), (0, 13), (0, 14), (0, 15), (0, 16)] rfl (by decide +kernel)) (goodIn_app (goodIn_c zc_wsX12_readsStatement_in [(0, 17), (0, 18), (0, 19), (0, 20), (0, 21), (0, 22), (0, 23), (1, 0), (1, 1), (1, 3), (1, 4), (1, 5), (1, 6), (1, 7), (1, 8), (1, 9), (1, 10), (1, 11), (1, 12), (1, 13), (1, 14), (1, 15), (1, 16), (1, 17)] rfl (by decide +kernel)) (goodIn_c zc_wsX12_readsStatement_in [(1, 18), (1, 19), (1, 20), (3, 2), (3, 3), (3, 4), (3, 5), (3, 6), (3, 7), (3, 8), (3, 9), (3, 10), (6, 8), (6, 9), (6, 10)] rfl (by decide +kernel)))) (goodIn_sub zB_X12_readsStatement_X120 zgw_X120))
set_option maxRecDepth 100000 in
theorem gX12_readsStatement_X12_readsGroup : GoodIn wsX12_readsStatement (wsV RX12 340 RX12 yX12_readsGroup wsX12_readsGroup) := goodIn_app (goodIn_r _ [149, 150, 151, 10] rfl (by decide +kernel)) ggX12_readsStatement_X12_readsGroup
set_option maxRecDepth 100000 in
theorem ggX12_readsStatement_X12_readsAnswer : GoodIn wsX12_readsStatement wsX12_readsAnswer := goodIn_hd (goodIn_c zc_wsX12_readsStatement_in [(6, 14)] rfl (by decide +kernel)) (goodIn_app (goodIn_app (goodIn_c zc_wsX12_readsStatement_in [(2, 4), (5, 0), (5, 16), (5, 17), (5, 18), (0, 9), (5, 19), (0, 0), (2, 14), (2, 15), (2, 16), (2, 17), (0, 11), (1, 2), (0, 6), (0, 7), (0, 8), (0, 10), (0, 12), (0, 13), (0, 14), (0, 15), (0, 16), (0, 17)] rfl (by decide +kernel)) (goodIn_app (goodIn_c zc_wsX12_readsStatement_in [(0, 18), (0, 19), (0, 20), (0, 21), (0, 22), (0, 23), (1, 0), (1, 1), (1, 3), (1, 4), (1, 5), (1, 6), (1, 7), (1, 8), (1, 9), (1, 10), (1, 11), (1, 12), (1, 13), (1, 14), (1, 15), (1, 16), (1, 17), (1, 18)] rfl (by decide +kernel)) (goodIn_app (goodIn_c zc_wsX12_readsStatement_in [(1, 19), (1, 20), (3, 2), (3, 3), (3, 4), (3, 5), (0, 3), (0, 2), (3, 6), (3, 7), (3, 8), (3, 9), (3, 10), (3, 11), (3, 12), (3, 13), (3, 14), (3, 15), (3, 16), (3, 17), (3, 18), (3, 19), (3, 20), (3, 21)] rfl (by decide +kernel)) (goodIn_c zc_wsX12_readsStatement_in [(3, 22), (3, 23), (4, 0), (4, 1), (4, 2), (4, 3)] rfl (by decide +kernel))))) (goodIn_sub zB_X12_readsStatement_X120 zgw_X120))
set_option maxRecDepth 100000 in
theorem gX12_readsStatement_X12_readsAnswer : GoodIn wsX12_readsStatement (wsV RX12 343 RX12 yX12_readsAnswer wsX12_readsAnswer) := goodIn_app (goodIn_r _ [156, 157, 158, 10] rfl (by decide +kernel)) ggX12_readsStatement_X12_readsAnswer
set_option maxRecDepth 100000 in
theorem ggX12_readsStatement_X12_mark : GoodIn wsX12_readsStatement wsX12_mark := goodIn_hd (goodIn_c zc_wsX12_readsStatement_in [(5, 10)] rfl (by decide +kernel)) (goodIn_app (goodIn_c zc_wsX12_readsStatement_in [(0, 11), (0, 12), (0, 13), (0, 14), (0, 9), (0, 15), (0, 16), (0, 17), (0, 18), (0, 19), (0, 20), (0, 21), (0, 22), (0, 23), (1, 0), (1, 1), (1, 2), (1, 11), (1, 12), (1, 13), (1, 14), (1, 15)] rfl (by decide +kernel)) (goodIn_sub zB_X12_readsStatement_X120 zgw_X120))
set_option maxRecDepth 100000 in
theorem gX12_readsStatement_X12_mark : GoodIn wsX12_readsStatement (wsV RX12 313 RX12 yX12_mark wsX12_mark) := goodIn_app (goodIn_r _ [128, 129, 130, 10] rfl (by decide +kernel)) ggX12_readsStatement_X12_mark
noncomputable def zc_wsX12_task : List (List Cond) := [wsX12_task_r1, wsX12_task_r2, wsX12_task_r3, wsX12_task_r4, wsX12_task_r5, wsX12_task_r6, wsX12_task_r7, wsX12_task_r8, wsX120]
set_option maxRecDepth 20000 in
theorem zc_wsX12_task_in : ∀ l ∈ zc_wsX12_task, ∀ w ∈ l, w ∈ wsX12_task := by
  intro l hl
  unfold zc_wsX12_task at hl
  rcases List.mem_cons.mp hl with e | hl
  · rw [e]
    exact fun w h => List.mem_cons_of_mem _ (List.mem_append_left _ (List.mem_append_left _ h))
  rcases List.mem_cons.mp hl with e | hl
  · rw [e]
    exact fun w h => List.mem_cons_of_mem _ (List.mem_append_left _ (List.mem_append_right _ (List.mem_append_left _ h)))
  rcases List.mem_cons.mp hl with e | hl
  · rw [e]
    exact fun w h => List.mem_cons_of_mem _ (List.mem_append_left _ (List.mem_append_right _ (List.mem_append_right _ (List.mem_append_left _ h))))
  rcases List.mem_cons.mp hl with e | hl
  · rw [e]
    exact fun w h => List.mem_cons_of_mem _ (List.mem_append_left _ (List.mem_append_right _ (List.mem_append_right _ (List.mem_append_right _ (List.mem_append_left _ h)))))
  rcases List.mem_cons.mp hl with e | hl
  · rw [e]
    exact fun w h => List.mem_cons_of_mem _ (List.mem_append_left _ (List.mem_append_right _ (List.mem_append_right _ (List.mem_append_right _ (List.mem_append_right _ (List.mem_append_left _ h))))))
  rcases List.mem_cons.mp hl with e | hl
  · rw [e]
    exact fun w h => List.mem_cons_of_mem _ (List.mem_append_left _ (List.mem_append_right _ (List.mem_append_right _ (List.mem_append_right _ (List.mem_append_right _ (List.mem_append_right _ (List.mem_append_left _ h)))))))
  rcases List.mem_cons.mp hl with e | hl
  · rw [e]
    exact fun w h => List.mem_cons_of_mem _ (List.mem_append_left _ (List.mem_append_right _ (List.mem_append_right _ (List.mem_append_right _ (List.mem_append_right _ (List.mem_append_right _ (List.mem_append_right _ (List.mem_append_left _ h))))))))
  rcases List.mem_cons.mp hl with e | hl
  · rw [e]
    exact fun w h => List.mem_cons_of_mem _ (List.mem_append_left _ (List.mem_append_right _ (List.mem_append_right _ (List.mem_append_right _ (List.mem_append_right _ (List.mem_append_right _ (List.mem_append_right _ (List.mem_append_right _ h))))))))
  rcases List.mem_cons.mp hl with e | hl
  · rw [e]
    exact fun w h => List.mem_cons_of_mem _ (List.mem_append_right _ h)
  cases hl
theorem zB_X12_task_X120 : ∀ w ∈ wsX120, w ∈ wsX12_task := fun _ h => List.mem_cons_of_mem _ (List.mem_append_right _ h)
set_option maxRecDepth 100000 in
theorem ggX12_task_X12_goesWell : GoodIn wsX12_task wsX12_goesWell := goodIn_hd (goodIn_c zc_wsX12_task_in [(0, 17)] rfl (by decide +kernel)) (goodIn_app (goodIn_c zc_wsX12_task_in [(0, 3)] rfl (by decide +kernel)) (goodIn_sub zB_X12_task_X120 zgw_X120))
set_option maxRecDepth 100000 in
theorem gX12_task_X12_goesWell : GoodIn wsX12_task (wsV RX12 231 RX12 yX12_goesWell wsX12_goesWell) := goodIn_app (goodIn_r _ [14, 15, 16, 17] rfl (by decide +kernel)) ggX12_task_X12_goesWell
set_option maxRecDepth 100000 in
theorem ggX12_task_X12_here : GoodIn wsX12_task wsX12_here := goodIn_hd (goodIn_c zc_wsX12_task_in [(0, 21)] rfl (by decide +kernel)) (goodIn_app (goodIn_c zc_wsX12_task_in [(0, 2), (0, 22), (0, 23), (1, 0), (0, 16), (1, 1), (0, 1), (1, 2)] rfl (by decide +kernel)) (goodIn_sub zB_X12_task_X120 zgw_X120))
set_option maxRecDepth 100000 in
theorem gX12_task_X12_here : GoodIn wsX12_task (wsV RX12 235 RX12 yX12_here wsX12_here) := goodIn_app (goodIn_r _ [19, 20, 21, 17] rfl (by decide +kernel)) ggX12_task_X12_here
set_option maxRecDepth 100000 in
theorem ggX12_task_X12_readsStatement : GoodIn wsX12_task wsX12_readsStatement := goodIn_hd (goodIn_c zc_wsX12_task_in [(1, 6)] rfl (by decide +kernel)) (goodIn_app (goodIn_app (goodIn_c zc_wsX12_task_in [(1, 7), (0, 6), (0, 5), (0, 7), (1, 8), (0, 8), (1, 9), (1, 10), (1, 11), (0, 16), (1, 12), (0, 2), (0, 13), (0, 14), (0, 15), (0, 17), (0, 3), (0, 18), (0, 19), (0, 20), (0, 21), (0, 22), (0, 23), (1, 0)] rfl (by decide +kernel)) (goodIn_app (goodIn_c zc_wsX12_task_in [(1, 1), (0, 1), (1, 2), (1, 13), (1, 14), (1, 15), (1, 16), (1, 17), (1, 18), (1, 19), (1, 20), (1, 21), (1, 22), (1, 23), (2, 0), (0, 4), (2, 1), (2, 2), (2, 3), (2, 4), (2, 5), (2, 6), (2, 7), (2, 8)] rfl (by decide +kernel)) (goodIn_app (goodIn_c zc_wsX12_task_in [(2, 9), (2, 10), (2, 11), (2, 12), (2, 13), (2, 14), (2, 15), (2, 16), (2, 17), (2, 18), (2, 19), (2, 20), (2, 21), (2, 22), (2, 23), (3, 0), (3, 1), (3, 2), (3, 3), (3, 4), (3, 5), (3, 6), (3, 7), (3, 8)] rfl (by decide +kernel)) (goodIn_app (goodIn_c zc_wsX12_task_in [(3, 9), (3, 10), (3, 11), (3, 12), (3, 13), (3, 14), (3, 15), (3, 16), (3, 17), (3, 18), (3, 19), (3, 20), (3, 21), (3, 22), (3, 23), (4, 0), (4, 1), (4, 2), (4, 3), (4, 4), (4, 5), (4, 6), (4, 7), (4, 8)] rfl (by decide +kernel)) (goodIn_app (goodIn_c zc_wsX12_task_in [(4, 9), (4, 10), (4, 11), (4, 12), (4, 13), (4, 14), (4, 15), (4, 16), (4, 17), (4, 18), (4, 19), (4, 20), (4, 21), (4, 22), (4, 23), (5, 0), (5, 1), (5, 2), (5, 3), (5, 4), (5, 5), (5, 6), (5, 7), (5, 8)] rfl (by decide +kernel)) (goodIn_app (goodIn_c zc_wsX12_task_in [(5, 9), (5, 10), (5, 11), (5, 12), (5, 13), (5, 14), (5, 15), (5, 16), (5, 17), (5, 18), (5, 19), (5, 20), (5, 21), (5, 22), (5, 23), (6, 0), (6, 1), (6, 2), (6, 3), (6, 4), (6, 5), (6, 6), (6, 7), (6, 8)] rfl (by decide +kernel)) (goodIn_c zc_wsX12_task_in [(6, 9), (6, 10), (6, 11), (6, 12), (6, 13), (6, 14), (6, 15), (6, 16), (6, 17), (6, 18), (6, 19), (6, 20), (6, 21), (6, 22), (6, 23)] rfl (by decide +kernel)))))))) (goodIn_sub zB_X12_task_X120 zgw_X120))
set_option maxRecDepth 100000 in
theorem gX12_task_X12_readsStatement : GoodIn wsX12_task (wsV RX12 346 RX12 yX12_readsStatement wsX12_readsStatement) := goodIn_app (goodIn_r _ [28, 29, 30, 17] rfl (by decide +kernel)) ggX12_task_X12_readsStatement
set_option maxRecDepth 100000 in
theorem ggX12_task_X12_faults : GoodIn wsX12_task wsX12_faults := goodIn_hd (goodIn_c zc_wsX12_task_in [(2, 0)] rfl (by decide +kernel)) (goodIn_app (goodIn_c zc_wsX12_task_in [(0, 3), (0, 4)] rfl (by decide +kernel)) (goodIn_sub zB_X12_task_X120 zgw_X120))
set_option maxRecDepth 100000 in
theorem gX12_task_X12_faults : GoodIn wsX12_task (wsV RX12 239 RX12 yX12_faults wsX12_faults) := goodIn_app (goodIn_r _ [46, 47, 48, 17] rfl (by decide +kernel)) ggX12_task_X12_faults
set_option maxRecDepth 100000 in
theorem ggX12_task_X12_refuses : GoodIn wsX12_task wsX12_refuses := goodIn_hd (goodIn_c zc_wsX12_task_in [(7, 3)] rfl (by decide +kernel)) (goodIn_app (goodIn_c zc_wsX12_task_in [(7, 4)] rfl (by decide +kernel)) (goodIn_sub zB_X12_task_X120 zgw_X120))
set_option maxRecDepth 100000 in
theorem gX12_task_X12_refuses : GoodIn wsX12_task (wsV RX12 216 RX12 yX12_refuses wsX12_refuses) := goodIn_app (goodIn_r _ [169, 170, 171, 17] rfl (by decide +kernel)) ggX12_task_X12_refuses
set_option maxRecDepth 100000 in
theorem ggX12_task_X12_copiesTask : GoodIn wsX12_task wsX12_copiesTask := goodIn_hd (goodIn_c zc_wsX12_task_in [(7, 8)] rfl (by decide +kernel)) (goodIn_app (goodIn_c zc_wsX12_task_in [(0, 6), (0, 7), (0, 8), (2, 15), (2, 16), (2, 17), (2, 18), (3, 15), (5, 5), (5, 6), (5, 7), (4, 19), (4, 20), (5, 8), (5, 9), (5, 10)] rfl (by decide +kernel)) (goodIn_sub zB_X12_task_X120 zgw_X120))
set_option maxRecDepth 100000 in
theorem gX12_task_X12_copiesTask : GoodIn wsX12_task (wsV RX12 349 RX12 yX12_copiesTask wsX12_copiesTask) := goodIn_app (goodIn_r _ [174, 175, 176, 17] rfl (by decide +kernel)) ggX12_task_X12_copiesTask
set_option maxRecDepth 100000 in
theorem ggX12_task_X12_beginsChoice : GoodIn wsX12_task wsX12_beginsChoice := goodIn_hd (goodIn_c zc_wsX12_task_in [(7, 12)] rfl (by decide +kernel)) (goodIn_app (goodIn_c zc_wsX12_task_in [(7, 13), (0, 7), (7, 14), (5, 8), (5, 10)] rfl (by decide +kernel)) (goodIn_sub zB_X12_task_X120 zgw_X120))
set_option maxRecDepth 100000 in
theorem gX12_task_X12_beginsChoice : GoodIn wsX12_task (wsV RX12 352 RX12 yX12_beginsChoice wsX12_beginsChoice) := goodIn_app (goodIn_r _ [178, 179, 180, 17] rfl (by decide +kernel)) ggX12_task_X12_beginsChoice
set_option maxRecDepth 100000 in
theorem ggX12_isNumber_X12_isIn : GoodIn wsX12_isNumber wsX12_isIn := goodIn_r _ [5] rfl (by decide +kernel)
set_option maxRecDepth 100000 in
theorem gX12_isNumber_X12_isIn : GoodIn wsX12_isNumber (va_wsS RX12 263 yX12_isIn wsX12_isIn) := goodIn_app (goodIn_r _ [2, 3, 4] rfl (by decide +kernel)) ggX12_isNumber_X12_isIn
set_option maxRecDepth 100000 in
theorem ggX12_isFormat_X12_isIn : GoodIn wsX12_isFormat wsX12_isIn := goodIn_r _ [5] rfl (by decide +kernel)
set_option maxRecDepth 100000 in
theorem gX12_isFormat_X12_isIn : GoodIn wsX12_isFormat (va_wsS RX12 263 yX12_isIn wsX12_isIn) := goodIn_app (goodIn_r _ [2, 3, 4] rfl (by decide +kernel)) ggX12_isFormat_X12_isIn
theorem zB_X12_laysFree_X120 : ∀ w ∈ wsX120, w ∈ wsX12_laysFree := fun _ h => List.mem_cons_of_mem _ (List.mem_append_right _ h)
set_option maxRecDepth 100000 in
theorem ggX12_laysFree_X12_isFree : GoodIn wsX12_laysFree wsX12_isFree := goodIn_hd (goodIn_r _ [9] rfl (by decide +kernel)) (goodIn_app (goodIn_r _ [2, 3, 10] rfl (by decide +kernel)) (goodIn_sub zB_X12_laysFree_X120 zgw_X120))
set_option maxRecDepth 100000 in
theorem gX12_laysFree_X12_isFree : GoodIn wsX12_laysFree (wsV RX12 355 RX12 yX12_isFree wsX12_isFree) := goodIn_app (goodIn_r _ [5, 6, 7, 8] rfl (by decide +kernel)) ggX12_laysFree_X12_isFree
noncomputable def zc_wsX12_has : List (List Cond) := [wsX12_has_r1, wsX12_has_r2, wsX120]
set_option maxRecDepth 20000 in
theorem zc_wsX12_has_in : ∀ l ∈ zc_wsX12_has, ∀ w ∈ l, w ∈ wsX12_has := by
  intro l hl
  unfold zc_wsX12_has at hl
  rcases List.mem_cons.mp hl with e | hl
  · rw [e]
    exact fun w h => List.mem_cons_of_mem _ (List.mem_append_left _ (List.mem_append_left _ h))
  rcases List.mem_cons.mp hl with e | hl
  · rw [e]
    exact fun w h => List.mem_cons_of_mem _ (List.mem_append_left _ (List.mem_append_right _ h))
  rcases List.mem_cons.mp hl with e | hl
  · rw [e]
    exact fun w h => List.mem_cons_of_mem _ (List.mem_append_right _ h)
  cases hl
theorem zB_X12_has_X120 : ∀ w ∈ wsX120, w ∈ wsX12_has := fun _ h => List.mem_cons_of_mem _ (List.mem_append_right _ h)
set_option maxRecDepth 100000 in
theorem ggX12_has_X12_laysFree : GoodIn wsX12_has wsX12_laysFree := goodIn_hd (goodIn_c zc_wsX12_has_in [(0, 9)] rfl (by decide +kernel)) (goodIn_app (goodIn_c zc_wsX12_has_in [(0, 2), (0, 0), (0, 10), (0, 11), (0, 12), (0, 13), (0, 14), (0, 8), (0, 15), (0, 16)] rfl (by decide +kernel)) (goodIn_sub zB_X12_has_X120 zgw_X120))
set_option maxRecDepth 100000 in
theorem gX12_has_X12_laysFree : GoodIn wsX12_has (wsV RX12 358 RX12 yX12_laysFree wsX12_laysFree) := goodIn_app (goodIn_r _ [6, 7, 8, 9] rfl (by decide +kernel)) ggX12_has_X12_laysFree
set_option maxRecDepth 100000 in
theorem ggX12_has_X12_inputs : GoodIn wsX12_has wsX12_inputs := goodIn_hd (goodIn_c zc_wsX12_has_in [(0, 20)] rfl (by decide +kernel)) (goodIn_app (goodIn_c zc_wsX12_has_in [(0, 0), (0, 21)] rfl (by decide +kernel)) (goodIn_sub zB_X12_has_X120 zgw_X120))
set_option maxRecDepth 100000 in
theorem gX12_has_X12_inputs : GoodIn wsX12_has (wsV RX12 361 RX12 yX12_inputs wsX12_inputs) := goodIn_app (goodIn_r _ [18, 19, 20, 9] rfl (by decide +kernel)) ggX12_has_X12_inputs
set_option maxRecDepth 100000 in
theorem ggX12_has_X12_answers : GoodIn wsX12_has wsX12_answers := goodIn_hd (goodIn_c zc_wsX12_has_in [(1, 1)] rfl (by decide +kernel)) (goodIn_app (goodIn_c zc_wsX12_has_in [(0, 0), (1, 2)] rfl (by decide +kernel)) (goodIn_sub zB_X12_has_X120 zgw_X120))
set_option maxRecDepth 100000 in
theorem gX12_has_X12_answers : GoodIn wsX12_has (wsV RX12 364 RX12 yX12_answers wsX12_answers) := goodIn_app (goodIn_r _ [23, 24, 25, 9] rfl (by decide +kernel)) ggX12_has_X12_answers
set_option maxRecDepth 100000 in
theorem ggX12_has_X12_groups : GoodIn wsX12_has wsX12_groups := goodIn_hd (goodIn_c zc_wsX12_has_in [(1, 6)] rfl (by decide +kernel)) (goodIn_app (goodIn_c zc_wsX12_has_in [(0, 0), (0, 10)] rfl (by decide +kernel)) (goodIn_sub zB_X12_has_X120 zgw_X120))
set_option maxRecDepth 100000 in
theorem gX12_has_X12_groups : GoodIn wsX12_has (wsV RX12 367 RX12 yX12_groups wsX12_groups) := goodIn_app (goodIn_r _ [28, 29, 30, 9] rfl (by decide +kernel)) ggX12_has_X12_groups
theorem zB_X12_letter_X120 : ∀ w ∈ wsX120, w ∈ wsX12_letter := fun _ h => List.mem_cons_of_mem _ (List.mem_append_right _ h)
set_option maxRecDepth 100000 in
theorem ggX12_letter_X12_isFormat : GoodIn wsX12_letter wsX12_isFormat := goodIn_hd (goodIn_r _ [8] rfl (by decide +kernel)) (goodIn_app (goodIn_r _ [9, 10, 11, 7, 12] rfl (by decide +kernel)) (goodIn_sub zB_X12_letter_X120 zgw_X120))
set_option maxRecDepth 100000 in
theorem gX12_letter_X12_isFormat : GoodIn wsX12_letter (wsV RX12 370 RX12 yX12_isFormat wsX12_isFormat) := goodIn_app (goodIn_r _ [4, 5, 6, 7] rfl (by decide +kernel)) ggX12_letter_X12_isFormat
set_option maxRecDepth 100000 in
theorem ggX12_letter_X12_isNumber : GoodIn wsX12_letter wsX12_isNumber := goodIn_hd (goodIn_r _ [16] rfl (by decide +kernel)) (goodIn_app (goodIn_r _ [17, 10, 11, 7, 12] rfl (by decide +kernel)) (goodIn_sub zB_X12_letter_X120 zgw_X120))
set_option maxRecDepth 100000 in
theorem gX12_letter_X12_isNumber : GoodIn wsX12_letter (wsV RX12 373 RX12 yX12_isNumber wsX12_isNumber) := goodIn_app (goodIn_r _ [13, 14, 15, 7] rfl (by decide +kernel)) ggX12_letter_X12_isNumber
set_option maxRecDepth 100000 in
theorem ggX12_letter_X12_isIn : GoodIn wsX12_letter wsX12_isIn := goodIn_r _ [12] rfl (by decide +kernel)
set_option maxRecDepth 100000 in
theorem gX12_letter_X12_isIn : GoodIn wsX12_letter (va_wsS RX12 263 yX12_isIn wsX12_isIn) := goodIn_app (goodIn_r _ [10, 11, 7] rfl (by decide +kernel)) ggX12_letter_X12_isIn
theorem zB_X12_format_X120 : ∀ w ∈ wsX120, w ∈ wsX12_format := fun _ h => List.mem_cons_of_mem _ (List.mem_append_right _ h)
set_option maxRecDepth 100000 in
theorem ggX12_format_X12_isFormat : GoodIn wsX12_format wsX12_isFormat := goodIn_hd (goodIn_r _ [8] rfl (by decide +kernel)) (goodIn_app (goodIn_r _ [9, 10, 11, 7, 12] rfl (by decide +kernel)) (goodIn_sub zB_X12_format_X120 zgw_X120))
set_option maxRecDepth 100000 in
theorem gX12_format_X12_isFormat : GoodIn wsX12_format (wsV RX12 370 RX12 yX12_isFormat wsX12_isFormat) := goodIn_app (goodIn_r _ [4, 5, 6, 7] rfl (by decide +kernel)) ggX12_format_X12_isFormat
theorem zB_X12_number__X120 : ∀ w ∈ wsX120, w ∈ wsX12_number_ := fun _ h => List.mem_cons_of_mem _ (List.mem_append_right _ h)
set_option maxRecDepth 100000 in
theorem ggX12_number__X12_isNumber : GoodIn wsX12_number_ wsX12_isNumber := goodIn_hd (goodIn_r _ [10] rfl (by decide +kernel)) (goodIn_app (goodIn_r _ [11, 12, 13, 9, 14] rfl (by decide +kernel)) (goodIn_sub zB_X12_number__X120 zgw_X120))
set_option maxRecDepth 100000 in
theorem gX12_number__X12_isNumber : GoodIn wsX12_number_ (wsV RX12 373 RX12 yX12_isNumber wsX12_isNumber) := goodIn_app (goodIn_r _ [6, 7, 8, 9] rfl (by decide +kernel)) ggX12_number__X12_isNumber
set_option maxRecDepth 100000 in
theorem ggX12_number__X12_groupPlace : GoodIn wsX12_number_ wsX12_groupPlace := goodIn_hd (goodIn_r _ [18] rfl (by decide +kernel)) (goodIn_app (goodIn_r _ [19] rfl (by decide +kernel)) (goodIn_sub zB_X12_number__X120 zgw_X120))
set_option maxRecDepth 100000 in
theorem gX12_number__X12_groupPlace : GoodIn wsX12_number_ (wsV RX12 378 RX12 yX12_groupPlace wsX12_groupPlace) := goodIn_app (goodIn_r _ [15, 16, 17, 9] rfl (by decide +kernel)) ggX12_number__X12_groupPlace
theorem zB_X12_told_X120 : ∀ w ∈ wsX120, w ∈ wsX12_told := fun _ h => List.mem_cons_of_mem _ (List.mem_append_right _ h)
set_option maxRecDepth 100000 in
theorem ggX12_told_X12_isNumber : GoodIn wsX12_told wsX12_isNumber := goodIn_hd (goodIn_r _ [11] rfl (by decide +kernel)) (goodIn_app (goodIn_r _ [12, 13, 14, 10, 15] rfl (by decide +kernel)) (goodIn_sub zB_X12_told_X120 zgw_X120))
set_option maxRecDepth 100000 in
theorem gX12_told_X12_isNumber : GoodIn wsX12_told (wsV RX12 373 RX12 yX12_isNumber wsX12_isNumber) := goodIn_app (goodIn_r _ [7, 8, 9, 10] rfl (by decide +kernel)) ggX12_told_X12_isNumber
set_option maxRecDepth 100000 in
theorem ggX12_told_X12_isIn : GoodIn wsX12_told wsX12_isIn := goodIn_r _ [15] rfl (by decide +kernel)
set_option maxRecDepth 100000 in
theorem gX12_told_X12_isIn : GoodIn wsX12_told (va_wsS RX12 263 yX12_isIn wsX12_isIn) := goodIn_app (goodIn_r _ [13, 14, 10] rfl (by decide +kernel)) ggX12_told_X12_isIn
set_option maxRecDepth 100000 in
theorem ggX12_rounded_X12_floor : GoodIn wsX12_rounded wsX12_floor := goodIn_r _ [5] rfl (by decide +kernel)
set_option maxRecDepth 100000 in
theorem gX12_rounded_X12_floor : GoodIn wsX12_rounded (va_wsS RX12 385 yX12_floor wsX12_floor) := goodIn_app (goodIn_r _ [2, 3, 4] rfl (by decide +kernel)) ggX12_rounded_X12_floor
set_option maxRecDepth 100000 in
theorem ggX12_roundedProduct_X12_floor : GoodIn wsX12_roundedProduct wsX12_floor := goodIn_r _ [7] rfl (by decide +kernel)
set_option maxRecDepth 100000 in
theorem gX12_roundedProduct_X12_floor : GoodIn wsX12_roundedProduct (va_wsS RX12 385 yX12_floor wsX12_floor) := goodIn_app (goodIn_r _ [4, 5, 6] rfl (by decide +kernel)) ggX12_roundedProduct_X12_floor
set_option maxRecDepth 100000 in
theorem ggX12_two_X12_roundedProduct : GoodIn wsX12_two wsX12_roundedProduct := goodIn_r _ [4, 5, 6, 7, 8, 9, 3, 10] rfl (by decide +kernel)
set_option maxRecDepth 100000 in
theorem gX12_two_X12_roundedProduct : GoodIn wsX12_two (va_wsS RX12 392 yX12_roundedProduct wsX12_roundedProduct) := goodIn_app (goodIn_r _ [1, 2, 3] rfl (by decide +kernel)) ggX12_two_X12_roundedProduct
set_option maxRecDepth 100000 in
theorem ggX12_two_X12_lesser : GoodIn wsX12_two wsX12_lesser := goodIn_r _ [13] rfl (by decide +kernel)
set_option maxRecDepth 100000 in
theorem gX12_two_X12_lesser : GoodIn wsX12_two (va_wsS RX12 322 yX12_lesser wsX12_lesser) := goodIn_app (goodIn_r _ [11, 12, 3] rfl (by decide +kernel)) ggX12_two_X12_lesser
set_option maxRecDepth 100000 in
theorem ggX12_two_X12_greater : GoodIn wsX12_two wsX12_greater := goodIn_r _ [16] rfl (by decide +kernel)
set_option maxRecDepth 100000 in
theorem gX12_two_X12_greater : GoodIn wsX12_two (va_wsS RX12 396 yX12_greater wsX12_greater) := goodIn_app (goodIn_r _ [14, 15, 3] rfl (by decide +kernel)) ggX12_two_X12_greater
noncomputable def zc_wsX12_laysRange : List (List Cond) := [wsX12_laysRange_r1, wsX12_laysRange_r2, wsX120]
set_option maxRecDepth 20000 in
theorem zc_wsX12_laysRange_in : ∀ l ∈ zc_wsX12_laysRange, ∀ w ∈ l, w ∈ wsX12_laysRange := by
  intro l hl
  unfold zc_wsX12_laysRange at hl
  rcases List.mem_cons.mp hl with e | hl
  · rw [e]
    exact fun w h => List.mem_cons_of_mem _ (List.mem_append_left _ (List.mem_append_left _ h))
  rcases List.mem_cons.mp hl with e | hl
  · rw [e]
    exact fun w h => List.mem_cons_of_mem _ (List.mem_append_left _ (List.mem_append_right _ h))
  rcases List.mem_cons.mp hl with e | hl
  · rw [e]
    exact fun w h => List.mem_cons_of_mem _ (List.mem_append_right _ h)
  cases hl
theorem zB_X12_laysRange_X120 : ∀ w ∈ wsX120, w ∈ wsX12_laysRange := fun _ h => List.mem_cons_of_mem _ (List.mem_append_right _ h)
set_option maxRecDepth 100000 in
theorem ggX12_laysRange_X12_lowOf : GoodIn wsX12_laysRange wsX12_lowOf := goodIn_hd (goodIn_c zc_wsX12_laysRange_in [(0, 11)] rfl (by decide +kernel)) (goodIn_app (goodIn_c zc_wsX12_laysRange_in [(0, 12), (0, 13), (0, 6), (0, 4), (0, 3)] rfl (by decide +kernel)) (goodIn_sub zB_X12_laysRange_X120 zgw_X120))
set_option maxRecDepth 100000 in
theorem gX12_laysRange_X12_lowOf : GoodIn wsX12_laysRange (wsV RX12 399 RX12 yX12_lowOf wsX12_lowOf) := goodIn_app (goodIn_r _ [8, 9, 10, 11] rfl (by decide +kernel)) ggX12_laysRange_X12_lowOf
set_option maxRecDepth 100000 in
theorem ggX12_laysRange_X12_highOf : GoodIn wsX12_laysRange wsX12_highOf := goodIn_hd (goodIn_c zc_wsX12_laysRange_in [(0, 17)] rfl (by decide +kernel)) (goodIn_app (goodIn_c zc_wsX12_laysRange_in [(0, 12), (0, 13), (0, 6), (0, 4), (0, 5)] rfl (by decide +kernel)) (goodIn_sub zB_X12_laysRange_X120 zgw_X120))
set_option maxRecDepth 100000 in
theorem gX12_laysRange_X12_highOf : GoodIn wsX12_laysRange (wsV RX12 403 RX12 yX12_highOf wsX12_highOf) := goodIn_app (goodIn_r _ [15, 16, 17, 11] rfl (by decide +kernel)) ggX12_laysRange_X12_highOf
set_option maxRecDepth 100000 in
theorem ggX12_laysRange_X12_two : GoodIn wsX12_laysRange wsX12_two := goodIn_r _ [21, 22, 23, 11, 24, 25, 26, 27, 28, 29, 30, 31, 32, 33, 34, 35, 36] rfl (by decide +kernel)
set_option maxRecDepth 100000 in
theorem gX12_laysRange_X12_two : GoodIn wsX12_laysRange (va_wsS RX12 406 yX12_two wsX12_two) := goodIn_app (goodIn_r _ [19, 20, 11] rfl (by decide +kernel)) ggX12_laysRange_X12_two
set_option maxRecDepth 100000 in
theorem ggX12_laysRange_X12_lesser : GoodIn wsX12_laysRange wsX12_lesser := goodIn_r _ [33] rfl (by decide +kernel)
set_option maxRecDepth 100000 in
theorem gX12_laysRange_X12_lesser : GoodIn wsX12_laysRange (va_wsS RX12 322 yX12_lesser wsX12_lesser) := goodIn_app (goodIn_r _ [31, 32, 11] rfl (by decide +kernel)) ggX12_laysRange_X12_lesser
set_option maxRecDepth 100000 in
theorem ggX12_laysRange_X12_greater : GoodIn wsX12_laysRange wsX12_greater := goodIn_r _ [36] rfl (by decide +kernel)
set_option maxRecDepth 100000 in
theorem gX12_laysRange_X12_greater : GoodIn wsX12_laysRange (va_wsS RX12 396 yX12_greater wsX12_greater) := goodIn_app (goodIn_r _ [34, 35, 11] rfl (by decide +kernel)) ggX12_laysRange_X12_greater
set_option maxRecDepth 100000 in
theorem ggX12_mostOf_X12_amount : GoodIn wsX12_mostOf wsX12_amount := goodIn_r _ [6] rfl (by decide +kernel)
set_option maxRecDepth 100000 in
theorem gX12_mostOf_X12_amount : GoodIn wsX12_mostOf (va_wsS RX12 410 yX12_amount wsX12_amount) := goodIn_app (goodIn_r _ [3, 4, 5] rfl (by decide +kernel)) ggX12_mostOf_X12_amount
set_option maxRecDepth 100000 in
theorem ggX12_mostOf_X12_greater : GoodIn wsX12_mostOf wsX12_greater := goodIn_r _ [9] rfl (by decide +kernel)
set_option maxRecDepth 100000 in
theorem gX12_mostOf_X12_greater : GoodIn wsX12_mostOf (va_wsS RX12 396 yX12_greater wsX12_greater) := goodIn_app (goodIn_r _ [7, 8, 5] rfl (by decide +kernel)) ggX12_mostOf_X12_greater
noncomputable def zc_wsX12_range : List (List Cond) := [wsX12_range_r1, wsX12_range_r2, wsX12_range_r3, wsX120]
set_option maxRecDepth 20000 in
theorem zc_wsX12_range_in : ∀ l ∈ zc_wsX12_range, ∀ w ∈ l, w ∈ wsX12_range := by
  intro l hl
  unfold zc_wsX12_range at hl
  rcases List.mem_cons.mp hl with e | hl
  · rw [e]
    exact fun w h => List.mem_cons_of_mem _ (List.mem_append_left _ (List.mem_append_left _ h))
  rcases List.mem_cons.mp hl with e | hl
  · rw [e]
    exact fun w h => List.mem_cons_of_mem _ (List.mem_append_left _ (List.mem_append_right _ (List.mem_append_left _ h)))
  rcases List.mem_cons.mp hl with e | hl
  · rw [e]
    exact fun w h => List.mem_cons_of_mem _ (List.mem_append_left _ (List.mem_append_right _ (List.mem_append_right _ h)))
  rcases List.mem_cons.mp hl with e | hl
  · rw [e]
    exact fun w h => List.mem_cons_of_mem _ (List.mem_append_right _ h)
  cases hl
theorem zB_X12_range_X120 : ∀ w ∈ wsX120, w ∈ wsX12_range := fun _ h => List.mem_cons_of_mem _ (List.mem_append_right _ h)
set_option maxRecDepth 100000 in
theorem ggX12_range_X12_isNumber : GoodIn wsX12_range wsX12_isNumber := goodIn_hd (goodIn_c zc_wsX12_range_in [(0, 12)] rfl (by decide +kernel)) (goodIn_app (goodIn_c zc_wsX12_range_in [(0, 13), (0, 14), (0, 15), (0, 11), (0, 16)] rfl (by decide +kernel)) (goodIn_sub zB_X12_range_X120 zgw_X120))
set_option maxRecDepth 100000 in
theorem gX12_range_X12_isNumber : GoodIn wsX12_range (wsV RX12 373 RX12 yX12_isNumber wsX12_isNumber) := goodIn_app (goodIn_r _ [9, 10, 11, 12] rfl (by decide +kernel)) ggX12_range_X12_isNumber
set_option maxRecDepth 100000 in
theorem ggX12_range_X12_isGreatPart : GoodIn wsX12_range wsX12_isGreatPart := goodIn_hd (goodIn_c zc_wsX12_range_in [(0, 20)] rfl (by decide +kernel)) (goodIn_app (goodIn_c zc_wsX12_range_in [(0, 2)] rfl (by decide +kernel)) (goodIn_sub zB_X12_range_X120 zgw_X120))
set_option maxRecDepth 100000 in
theorem gX12_range_X12_isGreatPart : GoodIn wsX12_range (wsV RX12 414 RX12 yX12_isGreatPart wsX12_isGreatPart) := goodIn_app (goodIn_r _ [18, 19, 20, 12] rfl (by decide +kernel)) ggX12_range_X12_isGreatPart
set_option maxRecDepth 100000 in
theorem ggX12_range_X12_laysRange : GoodIn wsX12_range wsX12_laysRange := goodIn_hd (goodIn_c zc_wsX12_range_in [(1, 0)] rfl (by decide +kernel)) (goodIn_app (goodIn_app (goodIn_c zc_wsX12_range_in [(1, 1), (0, 1), (1, 2), (0, 7), (1, 3), (0, 6), (1, 4), (1, 5), (1, 6), (1, 7), (0, 11), (1, 8), (0, 4), (0, 3), (1, 9), (1, 10), (1, 11), (1, 12), (1, 13), (1, 14), (1, 15), (1, 16), (1, 17), (1, 18)] rfl (by decide +kernel)) (goodIn_c zc_wsX12_range_in [(1, 19), (1, 20), (1, 21), (1, 22), (1, 23), (2, 0), (2, 1), (2, 2), (2, 3), (2, 4), (2, 5), (2, 6)] rfl (by decide +kernel))) (goodIn_sub zB_X12_range_X120 zgw_X120))
set_option maxRecDepth 100000 in
theorem gX12_range_X12_laysRange : GoodIn wsX12_range (wsV RX12 417 RX12 yX12_laysRange wsX12_laysRange) := goodIn_app (goodIn_r _ [22, 23, 24, 12] rfl (by decide +kernel)) ggX12_range_X12_laysRange
set_option maxRecDepth 100000 in
theorem ggX12_range_X12_mostOf : GoodIn wsX12_range wsX12_mostOf := goodIn_hd (goodIn_c zc_wsX12_range_in [(2, 10)] rfl (by decide +kernel)) (goodIn_app (goodIn_c zc_wsX12_range_in [(0, 7), (0, 6), (2, 11), (2, 12), (0, 11), (2, 13), (2, 4), (2, 5), (2, 6)] rfl (by decide +kernel)) (goodIn_sub zB_X12_range_X120 zgw_X120))
set_option maxRecDepth 100000 in
theorem gX12_range_X12_mostOf : GoodIn wsX12_range (wsV RX12 420 RX12 yX12_mostOf wsX12_mostOf) := goodIn_app (goodIn_r _ [56, 57, 58, 12] rfl (by decide +kernel)) ggX12_range_X12_mostOf
theorem zB_X12_uses_X120 : ∀ w ∈ wsX120, w ∈ wsX12_uses := fun _ h => List.mem_cons_of_mem _ (List.mem_append_right _ h)
set_option maxRecDepth 100000 in
theorem ggX12_uses_X12_isNumber : GoodIn wsX12_uses wsX12_isNumber := goodIn_hd (goodIn_r _ [8] rfl (by decide +kernel)) (goodIn_app (goodIn_r _ [1, 9, 10, 7, 11] rfl (by decide +kernel)) (goodIn_sub zB_X12_uses_X120 zgw_X120))
set_option maxRecDepth 100000 in
theorem gX12_uses_X12_isNumber : GoodIn wsX12_uses (wsV RX12 373 RX12 yX12_isNumber wsX12_isNumber) := goodIn_app (goodIn_r _ [4, 5, 6, 7] rfl (by decide +kernel)) ggX12_uses_X12_isNumber
theorem zB_X12_depth_X120 : ∀ w ∈ wsX120, w ∈ wsX12_depth := fun _ h => List.mem_cons_of_mem _ (List.mem_append_right _ h)
set_option maxRecDepth 100000 in
theorem ggX12_depth_X12_isNumber : GoodIn wsX12_depth wsX12_isNumber := goodIn_hd (goodIn_r _ [9] rfl (by decide +kernel)) (goodIn_app (goodIn_r _ [10, 11, 12, 8, 13] rfl (by decide +kernel)) (goodIn_sub zB_X12_depth_X120 zgw_X120))
set_option maxRecDepth 100000 in
theorem gX12_depth_X12_isNumber : GoodIn wsX12_depth (wsV RX12 373 RX12 yX12_isNumber wsX12_isNumber) := goodIn_app (goodIn_r _ [5, 6, 7, 8] rfl (by decide +kernel)) ggX12_depth_X12_isNumber
set_option maxRecDepth 100000 in
theorem ggX12_depth_X12_deepOf : GoodIn wsX12_depth wsX12_deepOf := goodIn_hd (goodIn_r _ [17] rfl (by decide +kernel)) (goodIn_app (goodIn_r _ [3] rfl (by decide +kernel)) (goodIn_sub zB_X12_depth_X120 zgw_X120))
set_option maxRecDepth 100000 in
theorem gX12_depth_X12_deepOf : GoodIn wsX12_depth (wsV RX12 424 RX12 yX12_deepOf wsX12_deepOf) := goodIn_app (goodIn_r _ [14, 15, 16, 8] rfl (by decide +kernel)) ggX12_depth_X12_deepOf
noncomputable def zc_wsX12_laysError : List (List Cond) := [wsX12_laysError_r1, wsX12_laysError_r2, wsX120]
set_option maxRecDepth 20000 in
theorem zc_wsX12_laysError_in : ∀ l ∈ zc_wsX12_laysError, ∀ w ∈ l, w ∈ wsX12_laysError := by
  intro l hl
  unfold zc_wsX12_laysError at hl
  rcases List.mem_cons.mp hl with e | hl
  · rw [e]
    exact fun w h => List.mem_cons_of_mem _ (List.mem_append_left _ (List.mem_append_left _ h))
  rcases List.mem_cons.mp hl with e | hl
  · rw [e]
    exact fun w h => List.mem_cons_of_mem _ (List.mem_append_left _ (List.mem_append_right _ h))
  rcases List.mem_cons.mp hl with e | hl
  · rw [e]
    exact fun w h => List.mem_cons_of_mem _ (List.mem_append_right _ h)
  cases hl
theorem zB_X12_laysError_X120 : ∀ w ∈ wsX120, w ∈ wsX12_laysError := fun _ h => List.mem_cons_of_mem _ (List.mem_append_right _ h)
set_option maxRecDepth 100000 in
theorem ggX12_laysError_X12_castError : GoodIn wsX12_laysError wsX12_castError := goodIn_hd (goodIn_c zc_wsX12_laysError_in [(0, 10)] rfl (by decide +kernel)) (goodIn_app (goodIn_c zc_wsX12_laysError_in [(0, 0), (0, 1), (0, 11), (0, 12), (0, 13), (0, 14), (0, 2), (0, 4)] rfl (by decide +kernel)) (goodIn_sub zB_X12_laysError_X120 zgw_X120))
set_option maxRecDepth 100000 in
theorem gX12_laysError_X12_castError : GoodIn wsX12_laysError (wsV RX12 427 RX12 yX12_castError wsX12_castError) := goodIn_app (goodIn_r _ [7, 8, 9, 10] rfl (by decide +kernel)) ggX12_laysError_X12_castError
set_option maxRecDepth 100000 in
theorem ggX12_laysError_X12_lowOf : GoodIn wsX12_laysError wsX12_lowOf := goodIn_hd (goodIn_c zc_wsX12_laysError_in [(0, 18)] rfl (by decide +kernel)) (goodIn_app (goodIn_c zc_wsX12_laysError_in [(0, 11), (0, 12), (0, 13), (0, 14), (0, 19)] rfl (by decide +kernel)) (goodIn_sub zB_X12_laysError_X120 zgw_X120))
set_option maxRecDepth 100000 in
theorem gX12_laysError_X12_lowOf : GoodIn wsX12_laysError (wsV RX12 399 RX12 yX12_lowOf wsX12_lowOf) := goodIn_app (goodIn_r _ [16, 17, 18, 10] rfl (by decide +kernel)) ggX12_laysError_X12_lowOf
set_option maxRecDepth 100000 in
theorem ggX12_laysError_X12_amount : GoodIn wsX12_laysError wsX12_amount := goodIn_r _ [23] rfl (by decide +kernel)
set_option maxRecDepth 100000 in
theorem gX12_laysError_X12_amount : GoodIn wsX12_laysError (va_wsS RX12 410 yX12_amount wsX12_amount) := goodIn_app (goodIn_r _ [21, 22, 10] rfl (by decide +kernel)) ggX12_laysError_X12_amount
set_option maxRecDepth 100000 in
theorem ggX12_laysError_X12_highOf : GoodIn wsX12_laysError wsX12_highOf := goodIn_hd (goodIn_c zc_wsX12_laysError_in [(1, 2)] rfl (by decide +kernel)) (goodIn_app (goodIn_c zc_wsX12_laysError_in [(0, 11), (0, 12), (0, 13), (0, 14), (1, 3)] rfl (by decide +kernel)) (goodIn_sub zB_X12_laysError_X120 zgw_X120))
set_option maxRecDepth 100000 in
theorem gX12_laysError_X12_highOf : GoodIn wsX12_laysError (wsV RX12 403 RX12 yX12_highOf wsX12_highOf) := goodIn_app (goodIn_r _ [24, 25, 26, 10] rfl (by decide +kernel)) ggX12_laysError_X12_highOf
set_option maxRecDepth 100000 in
theorem ggX12_laysError_X12_greater : GoodIn wsX12_laysError wsX12_greater := goodIn_r _ [31] rfl (by decide +kernel)
set_option maxRecDepth 100000 in
theorem gX12_laysError_X12_greater : GoodIn wsX12_laysError (va_wsS RX12 396 yX12_greater wsX12_greater) := goodIn_app (goodIn_r _ [29, 30, 10] rfl (by decide +kernel)) ggX12_laysError_X12_greater
set_option maxRecDepth 100000 in
theorem ggX12_laysError_X12_floor : GoodIn wsX12_laysError wsX12_floor := goodIn_r _ [34] rfl (by decide +kernel)
set_option maxRecDepth 100000 in
theorem gX12_laysError_X12_floor : GoodIn wsX12_laysError (va_wsS RX12 385 yX12_floor wsX12_floor) := goodIn_app (goodIn_r _ [32, 33, 10] rfl (by decide +kernel)) ggX12_laysError_X12_floor
noncomputable def zc_wsX12_passes : List (List Cond) := [wsX12_passes_r1, wsX12_passes_r2, wsX12_passes_r3, wsX120]
set_option maxRecDepth 20000 in
theorem zc_wsX12_passes_in : ∀ l ∈ zc_wsX12_passes, ∀ w ∈ l, w ∈ wsX12_passes := by
  intro l hl
  unfold zc_wsX12_passes at hl
  rcases List.mem_cons.mp hl with e | hl
  · rw [e]
    exact fun w h => List.mem_cons_of_mem _ (List.mem_append_left _ (List.mem_append_left _ h))
  rcases List.mem_cons.mp hl with e | hl
  · rw [e]
    exact fun w h => List.mem_cons_of_mem _ (List.mem_append_left _ (List.mem_append_right _ (List.mem_append_left _ h)))
  rcases List.mem_cons.mp hl with e | hl
  · rw [e]
    exact fun w h => List.mem_cons_of_mem _ (List.mem_append_left _ (List.mem_append_right _ (List.mem_append_right _ h)))
  rcases List.mem_cons.mp hl with e | hl
  · rw [e]
    exact fun w h => List.mem_cons_of_mem _ (List.mem_append_right _ h)
  cases hl
theorem zB_X12_passes_X120 : ∀ w ∈ wsX120, w ∈ wsX12_passes := fun _ h => List.mem_cons_of_mem _ (List.mem_append_right _ h)
set_option maxRecDepth 100000 in
theorem ggX12_passes_X12_laysRange : GoodIn wsX12_passes wsX12_laysRange := goodIn_hd (goodIn_c zc_wsX12_passes_in [(0, 11)] rfl (by decide +kernel)) (goodIn_app (goodIn_app (goodIn_c zc_wsX12_passes_in [(0, 12), (0, 13), (0, 14), (0, 15), (0, 16), (0, 17), (0, 18), (0, 19), (0, 20), (0, 21), (0, 10), (0, 22), (0, 23), (1, 0), (1, 1), (1, 2), (1, 3), (1, 4), (1, 5), (1, 6), (1, 7), (1, 8), (1, 9), (1, 10)] rfl (by decide +kernel)) (goodIn_c zc_wsX12_passes_in [(1, 11), (1, 12), (1, 13), (1, 14), (1, 15), (1, 16), (1, 17), (1, 18), (1, 19), (1, 20), (1, 21), (1, 22)] rfl (by decide +kernel))) (goodIn_sub zB_X12_passes_X120 zgw_X120))
set_option maxRecDepth 100000 in
theorem gX12_passes_X12_laysRange : GoodIn wsX12_passes (wsV RX12 417 RX12 yX12_laysRange wsX12_laysRange) := goodIn_app (goodIn_r _ [8, 9, 10, 11] rfl (by decide +kernel)) ggX12_passes_X12_laysRange
set_option maxRecDepth 100000 in
theorem ggX12_passes_X12_laysError : GoodIn wsX12_passes wsX12_laysError := goodIn_hd (goodIn_c zc_wsX12_passes_in [(2, 2)] rfl (by decide +kernel)) (goodIn_app (goodIn_app (goodIn_c zc_wsX12_passes_in [(2, 3), (0, 5), (1, 11), (0, 12), (0, 3), (1, 12), (2, 4), (2, 5), (2, 6), (0, 10), (2, 7), (0, 23), (1, 0), (0, 18), (0, 16), (0, 19), (0, 20), (0, 21), (0, 22), (0, 15), (2, 8), (2, 9), (2, 10), (1, 1)] rfl (by decide +kernel)) (goodIn_c zc_wsX12_passes_in [(1, 2), (1, 3), (1, 4), (0, 17), (1, 20), (1, 21), (1, 22), (1, 14), (1, 15), (1, 16)] rfl (by decide +kernel))) (goodIn_sub zB_X12_passes_X120 zgw_X120))
set_option maxRecDepth 100000 in
theorem gX12_passes_X12_laysError : GoodIn wsX12_passes (wsV RX12 430 RX12 yX12_laysError wsX12_laysError) := goodIn_app (goodIn_r _ [48, 49, 50, 11] rfl (by decide +kernel)) ggX12_passes_X12_laysError
set_option maxRecDepth 100000 in
theorem ggX12_passes_X12_mostOf : GoodIn wsX12_passes wsX12_mostOf := goodIn_hd (goodIn_c zc_wsX12_passes_in [(2, 14)] rfl (by decide +kernel)) (goodIn_app (goodIn_c zc_wsX12_passes_in [(0, 15), (0, 17), (2, 8), (2, 9), (0, 10), (2, 10), (1, 20), (1, 21), (1, 22)] rfl (by decide +kernel)) (goodIn_sub zB_X12_passes_X120 zgw_X120))
set_option maxRecDepth 100000 in
theorem gX12_passes_X12_mostOf : GoodIn wsX12_passes (wsV RX12 420 RX12 yX12_mostOf wsX12_mostOf) := goodIn_app (goodIn_r _ [60, 61, 62, 11] rfl (by decide +kernel)) ggX12_passes_X12_mostOf
theorem zB_X12_castsTried_X120 : ∀ w ∈ wsX120, w ∈ wsX12_castsTried := fun _ h => List.mem_cons_of_mem _ (List.mem_append_right _ h)
set_option maxRecDepth 100000 in
theorem ggX12_castsTried_X12_isCast : GoodIn wsX12_castsTried wsX12_isCast := goodIn_hd (goodIn_r _ [8] rfl (by decide +kernel)) (goodIn_app (goodIn_r _ [9] rfl (by decide +kernel)) (goodIn_sub zB_X12_castsTried_X120 zgw_X120))
set_option maxRecDepth 100000 in
theorem gX12_castsTried_X12_isCast : GoodIn wsX12_castsTried (wsV RX12 433 RX12 yX12_isCast wsX12_isCast) := goodIn_app (goodIn_r _ [4, 5, 6, 7] rfl (by decide +kernel)) ggX12_castsTried_X12_isCast
theorem zB_X12_costTried_X120 : ∀ w ∈ wsX120, w ∈ wsX12_costTried := fun _ h => List.mem_cons_of_mem _ (List.mem_append_right _ h)
set_option maxRecDepth 100000 in
theorem ggX12_costTried_X12_castsTried : GoodIn wsX12_costTried wsX12_castsTried := goodIn_hd (goodIn_r _ [9] rfl (by decide +kernel)) (goodIn_app (goodIn_r _ [2, 10, 11, 12, 13, 14, 8, 15, 4] rfl (by decide +kernel)) (goodIn_sub zB_X12_costTried_X120 zgw_X120))
set_option maxRecDepth 100000 in
theorem gX12_costTried_X12_castsTried : GoodIn wsX12_costTried (wsV RX12 437 RX12 yX12_castsTried wsX12_castsTried) := goodIn_app (goodIn_r _ [5, 6, 7, 8] rfl (by decide +kernel)) ggX12_costTried_X12_castsTried
noncomputable def zc_wsX12_handPasses : List (List Cond) := [wsX12_handPasses_r1, wsX12_handPasses_r2, wsX12_handPasses_r3, wsX12_handPasses_r4, wsX120]
set_option maxRecDepth 20000 in
theorem zc_wsX12_handPasses_in : ∀ l ∈ zc_wsX12_handPasses, ∀ w ∈ l, w ∈ wsX12_handPasses := by
  intro l hl
  unfold zc_wsX12_handPasses at hl
  rcases List.mem_cons.mp hl with e | hl
  · rw [e]
    exact fun w h => List.mem_cons_of_mem _ (List.mem_append_left _ (List.mem_append_left _ h))
  rcases List.mem_cons.mp hl with e | hl
  · rw [e]
    exact fun w h => List.mem_cons_of_mem _ (List.mem_append_left _ (List.mem_append_right _ (List.mem_append_left _ h)))
  rcases List.mem_cons.mp hl with e | hl
  · rw [e]
    exact fun w h => List.mem_cons_of_mem _ (List.mem_append_left _ (List.mem_append_right _ (List.mem_append_right _ (List.mem_append_left _ h))))
  rcases List.mem_cons.mp hl with e | hl
  · rw [e]
    exact fun w h => List.mem_cons_of_mem _ (List.mem_append_left _ (List.mem_append_right _ (List.mem_append_right _ (List.mem_append_right _ h))))
  rcases List.mem_cons.mp hl with e | hl
  · rw [e]
    exact fun w h => List.mem_cons_of_mem _ (List.mem_append_right _ h)
  cases hl
theorem zB_X12_handPasses_X120 : ∀ w ∈ wsX120, w ∈ wsX12_handPasses := fun _ h => List.mem_cons_of_mem _ (List.mem_append_right _ h)
set_option maxRecDepth 100000 in
theorem ggX12_handPasses_X12_triesHand : GoodIn wsX12_handPasses wsX12_triesHand := goodIn_hd (goodIn_c zc_wsX12_handPasses_in [(0, 7)] rfl (by decide +kernel)) (goodIn_app (goodIn_c zc_wsX12_handPasses_in [(0, 2), (0, 8), (0, 9)] rfl (by decide +kernel)) (goodIn_sub zB_X12_handPasses_X120 zgw_X120))
set_option maxRecDepth 100000 in
theorem gX12_handPasses_X12_triesHand : GoodIn wsX12_handPasses (wsV RX12 440 RX12 yX12_triesHand wsX12_triesHand) := goodIn_app (goodIn_r _ [4, 5, 6, 7] rfl (by decide +kernel)) ggX12_handPasses_X12_triesHand
set_option maxRecDepth 100000 in
theorem ggX12_handPasses_X12_passes : GoodIn wsX12_handPasses wsX12_passes := goodIn_hd (goodIn_c zc_wsX12_handPasses_in [(0, 13)] rfl (by decide +kernel)) (goodIn_app (goodIn_app (goodIn_c zc_wsX12_handPasses_in [(0, 14), (0, 15), (0, 2), (0, 16), (0, 17), (0, 8), (0, 18), (0, 19), (0, 20), (0, 21), (0, 6), (0, 22), (0, 23), (0, 0), (1, 0), (1, 1), (1, 2), (1, 3), (1, 4), (1, 5), (1, 6), (1, 7), (1, 8), (1, 9)] rfl (by decide +kernel)) (goodIn_app (goodIn_c zc_wsX12_handPasses_in [(1, 10), (1, 11), (1, 12), (1, 13), (1, 14), (1, 15), (1, 16), (1, 17), (1, 18), (1, 19), (1, 20), (1, 21), (1, 22), (1, 23), (2, 0), (2, 1), (2, 2), (2, 3), (2, 4), (2, 5), (2, 6), (2, 7), (2, 8), (2, 9)] rfl (by decide +kernel)) (goodIn_c zc_wsX12_handPasses_in [(2, 10), (2, 11), (2, 12), (2, 13), (2, 14), (2, 15), (2, 16), (2, 17), (2, 18), (2, 19), (2, 20), (2, 21), (2, 22), (2, 23), (3, 0)] rfl (by decide +kernel)))) (goodIn_sub zB_X12_handPasses_X120 zgw_X120))
