theorem zgood_sub {big ws : List Cond} (hm : ∀ w ∈ ws, w ∈ big) (h : ws.all goodWord = true) : GoodIn big ws := fun w hw => ⟨hm w hw, good_of_word (List.all_eq_true.mp h w hw)⟩
theorem inlX0 : ∀ w ∈ wsX00, w ∈ wsL_law := fun _ h => List.mem_append_left _ (List.mem_append_left _ (List.mem_append_left _ (List.mem_append_left _ (List.mem_append_left _ (List.mem_append_right _ h)))))
theorem inlX1 : ∀ w ∈ wsX10, w ∈ wsL_law := fun _ h => List.mem_append_left _ (List.mem_append_left _ (List.mem_append_left _ (List.mem_append_left _ (List.mem_append_left _ (List.mem_append_left _ (List.mem_append_left _ (List.mem_append_right _ h)))))))
theorem inlX2 : ∀ w ∈ wsX20, w ∈ wsL_law := fun _ h => List.mem_append_left _ (List.mem_append_right _ h)
theorem inlX3 : ∀ w ∈ wsX30, w ∈ wsL_law := fun _ h => List.mem_append_left _ (List.mem_append_left _ (List.mem_append_left _ (List.mem_append_left _ (List.mem_append_left _ (List.mem_append_left _ (List.mem_append_right _ h))))))
theorem inlX4 : ∀ w ∈ wsX40, w ∈ wsL_law := fun _ h => List.mem_append_left _ (List.mem_append_left _ (List.mem_append_right _ h))
theorem inlX5 : ∀ w ∈ wsX50, w ∈ wsL_law := fun _ h => List.mem_append_left _ (List.mem_append_left _ (List.mem_append_left _ (List.mem_append_left _ (List.mem_append_left _ (List.mem_append_left _ (List.mem_append_left _ (List.mem_append_left _ (List.mem_append_left _ (List.mem_append_left _ (List.mem_append_left _ (List.mem_append_right _ h)))))))))))
theorem inlX6 : ∀ w ∈ wsX60, w ∈ wsL_law := fun _ h => List.mem_append_left _ (List.mem_append_left _ (List.mem_append_left _ (List.mem_append_left _ (List.mem_append_left _ (List.mem_append_left _ (List.mem_append_left _ (List.mem_append_left _ (List.mem_append_right _ h))))))))
theorem inlX7 : ∀ w ∈ wsX70, w ∈ wsL_law := fun _ h => List.mem_append_left _ (List.mem_append_left _ (List.mem_append_left _ (List.mem_append_left _ (List.mem_append_left _ (List.mem_append_left _ (List.mem_append_left _ (List.mem_append_left _ (List.mem_append_left _ (List.mem_append_right _ h)))))))))
theorem inlX8 : ∀ w ∈ wsX80, w ∈ wsL_law := fun _ h => List.mem_append_left _ (List.mem_append_left _ (List.mem_append_left _ (List.mem_append_left _ (List.mem_append_right _ h))))
theorem inlX9 : ∀ w ∈ wsX90, w ∈ wsL_law := fun _ h => List.mem_append_left _ (List.mem_append_left _ (List.mem_append_left _ (List.mem_append_left _ (List.mem_append_left _ (List.mem_append_left _ (List.mem_append_left _ (List.mem_append_left _ (List.mem_append_left _ (List.mem_append_left _ (List.mem_append_right _ h))))))))))
theorem inlX10 : ∀ w ∈ wsX100, w ∈ wsL_law := fun _ h => List.mem_append_left _ (List.mem_append_left _ (List.mem_append_left _ (List.mem_append_right _ h)))
theorem inlX11 : ∀ w ∈ wsX110, w ∈ wsL_law := fun _ h => List.mem_append_left _ (List.mem_append_left _ (List.mem_append_left _ (List.mem_append_left _ (List.mem_append_left _ (List.mem_append_left _ (List.mem_append_left _ (List.mem_append_left _ (List.mem_append_left _ (List.mem_append_left _ (List.mem_append_left _ (List.mem_append_left _ (List.mem_append_left _ (List.mem_append_right _ h)))))))))))))
theorem inlX12 : ∀ w ∈ wsX120, w ∈ wsL_law := fun _ h => List.mem_append_left _ (List.mem_append_left _ (List.mem_append_left _ (List.mem_append_left _ (List.mem_append_left _ (List.mem_append_left _ (List.mem_append_left _ (List.mem_append_left _ (List.mem_append_left _ (List.mem_append_left _ (List.mem_append_left _ (List.mem_append_left _ (List.mem_append_right _ h))))))))))))
set_option maxRecDepth 20000 in
theorem ggL_law_X11_init : GoodIn wsL_law wsX11_init := sorry
set_option maxRecDepth 20000 in
theorem gL_law_X11_init : GoodIn wsL_law (wsX11_init) := sorry
set_option maxRecDepth 20000 in
theorem ggL_law_X12_init : GoodIn wsL_law wsX12_init := sorry
set_option maxRecDepth 20000 in
theorem gL_law_X12_init : GoodIn wsL_law (wsX12_init) := sorry
set_option maxRecDepth 20000 in
theorem ggL_law_X11_feed : GoodIn wsL_law wsX11_feed := sorry
set_option maxRecDepth 20000 in
theorem gL_law_X11_feed : GoodIn wsL_law (wsV RL 13 RX11 yX11_feed wsX11_feed) := sorry
set_option maxRecDepth 20000 in
theorem ggL_law_X12_feed : GoodIn wsL_law wsX12_feed := sorry
set_option maxRecDepth 20000 in
theorem gL_law_X12_feed : GoodIn wsL_law (wsV RL 17 RX12 yX12_feed wsX12_feed) := sorry
set_option maxRecDepth 20000 in
theorem ggL_law_X11_end : GoodIn wsL_law wsX11_end := sorry
set_option maxRecDepth 20000 in
theorem gL_law_X11_end : GoodIn wsL_law (wsV RL 18 RX11 yX11_end wsX11_end) := sorry
set_option maxRecDepth 20000 in
theorem ggL_law_X12_end : GoodIn wsL_law wsX12_end := sorry
set_option maxRecDepth 20000 in
theorem gL_law_X12_end : GoodIn wsL_law (wsV RL 22 RX12 yX12_end wsX12_end) := sorry
set_option maxRecDepth 20000 in
theorem ggL_law_X11_task : GoodIn wsL_law wsX11_task := sorry
set_option maxRecDepth 20000 in
theorem gL_law_X11_task : GoodIn wsL_law (wsV RL 23 RX11 yX11_task wsX11_task) := sorry
set_option maxRecDepth 20000 in
theorem ggL_law_X12_task : GoodIn wsL_law wsX12_task := sorry
set_option maxRecDepth 20000 in
theorem gL_law_X12_task : GoodIn wsL_law (wsV RL 27 RX12 yX12_task wsX12_task) := sorry
set_option maxRecDepth 20000 in
theorem ggL_law_X11_fault : GoodIn wsL_law wsX11_fault := sorry
set_option maxRecDepth 20000 in
theorem gL_law_X11_fault : GoodIn wsL_law (wsV RL 28 RX11 yX11_fault wsX11_fault) := sorry
set_option maxRecDepth 20000 in
theorem ggL_law_X12_fault : GoodIn wsL_law wsX12_fault := sorry
set_option maxRecDepth 20000 in
theorem gL_law_X12_fault : GoodIn wsL_law (wsV RL 32 RX12 yX12_fault wsX12_fault) := sorry
set_option maxRecDepth 20000 in
theorem ggL_law_X11_has : GoodIn wsL_law wsX11_has := sorry
set_option maxRecDepth 20000 in
theorem gL_law_X11_has : GoodIn wsL_law (wsV RL 33 RX11 yX11_has wsX11_has) := sorry
set_option maxRecDepth 20000 in
theorem ggL_law_X12_has : GoodIn wsL_law wsX12_has := sorry
set_option maxRecDepth 20000 in
theorem gL_law_X12_has : GoodIn wsL_law (wsV RL 36 RX12 yX12_has wsX12_has) := sorry
set_option maxRecDepth 20000 in
theorem ggL_law_X11_letter : GoodIn wsL_law wsX11_letter := sorry
set_option maxRecDepth 20000 in
theorem gL_law_X11_letter : GoodIn wsL_law (wsV RL 37 RX11 yX11_letter wsX11_letter) := sorry
set_option maxRecDepth 20000 in
theorem ggL_law_X12_letter : GoodIn wsL_law wsX12_letter := sorry
set_option maxRecDepth 20000 in
theorem gL_law_X12_letter : GoodIn wsL_law (wsV RL 41 RX12 yX12_letter wsX12_letter) := sorry
set_option maxRecDepth 20000 in
theorem ggL_law_X11_format : GoodIn wsL_law wsX11_format := sorry
set_option maxRecDepth 20000 in
theorem gL_law_X11_format : GoodIn wsL_law (wsV RL 42 RX11 yX11_format wsX11_format) := sorry
set_option maxRecDepth 20000 in
theorem ggL_law_X12_format : GoodIn wsL_law wsX12_format := sorry
set_option maxRecDepth 20000 in
theorem gL_law_X12_format : GoodIn wsL_law (wsV RL 46 RX12 yX12_format wsX12_format) := sorry
set_option maxRecDepth 20000 in
theorem ggL_law_X11_number : GoodIn wsL_law wsX11_number := sorry
set_option maxRecDepth 20000 in
theorem gL_law_X11_number : GoodIn wsL_law (wsV RL 47 RX11 yX11_number wsX11_number) := sorry
set_option maxRecDepth 20000 in
theorem ggL_law_X12_number_ : GoodIn wsL_law wsX12_number_ := sorry
set_option maxRecDepth 20000 in
theorem gL_law_X12_number_ : GoodIn wsL_law (wsV RL 50 RX12 yX12_number_ wsX12_number_) := sorry
set_option maxRecDepth 20000 in
theorem ggL_law_X11_told : GoodIn wsL_law wsX11_told := sorry
set_option maxRecDepth 20000 in
theorem gL_law_X11_told : GoodIn wsL_law (wsV RL 51 RX11 yX11_told wsX11_told) := sorry
set_option maxRecDepth 20000 in
theorem ggL_law_X12_told : GoodIn wsL_law wsX12_told := sorry
set_option maxRecDepth 20000 in
theorem gL_law_X12_told : GoodIn wsL_law (wsV RL 55 RX12 yX12_told wsX12_told) := sorry
set_option maxRecDepth 20000 in
theorem ggL_law_X11_range : GoodIn wsL_law wsX11_range := sorry
set_option maxRecDepth 20000 in
theorem gL_law_X11_range : GoodIn wsL_law (wsV RL 56 RX11 yX11_range wsX11_range) := sorry
set_option maxRecDepth 20000 in
theorem ggL_law_X12_range : GoodIn wsL_law wsX12_range := sorry
set_option maxRecDepth 20000 in
theorem gL_law_X12_range : GoodIn wsL_law (wsV RL 60 RX12 yX12_range wsX12_range) := sorry
set_option maxRecDepth 20000 in
theorem ggL_law_X11_uses : GoodIn wsL_law wsX11_uses := sorry
set_option maxRecDepth 20000 in
theorem gL_law_X11_uses : GoodIn wsL_law (wsV RL 61 RX11 yX11_uses wsX11_uses) := sorry
set_option maxRecDepth 20000 in
theorem ggL_law_X12_uses : GoodIn wsL_law wsX12_uses := sorry
set_option maxRecDepth 20000 in
theorem gL_law_X12_uses : GoodIn wsL_law (wsV RL 64 RX12 yX12_uses wsX12_uses) := sorry
set_option maxRecDepth 20000 in
theorem ggL_law_X11_depth : GoodIn wsL_law wsX11_depth := sorry
set_option maxRecDepth 20000 in
theorem gL_law_X11_depth : GoodIn wsL_law (wsV RL 65 RX11 yX11_depth wsX11_depth) := sorry
set_option maxRecDepth 20000 in
theorem ggL_law_X12_depth : GoodIn wsL_law wsX12_depth := sorry
set_option maxRecDepth 20000 in
theorem gL_law_X12_depth : GoodIn wsL_law (wsV RL 68 RX12 yX12_depth wsX12_depth) := sorry
set_option maxRecDepth 20000 in
theorem ggL_law_X11_chosen : GoodIn wsL_law wsX11_chosen := sorry
set_option maxRecDepth 20000 in
theorem gL_law_X11_chosen : GoodIn wsL_law (wsV RL 69 RX11 yX11_chosen wsX11_chosen) := sorry
set_option maxRecDepth 20000 in
theorem ggL_law_X12_chosen : GoodIn wsL_law wsX12_chosen := sorry
set_option maxRecDepth 20000 in
theorem gL_law_X12_chosen : GoodIn wsL_law (wsV RL 72 RX12 yX12_chosen wsX12_chosen) := sorry
set_option maxRecDepth 20000 in
theorem ggL_law_X11_choose : GoodIn wsL_law wsX11_choose := sorry
set_option maxRecDepth 20000 in
theorem gL_law_X11_choose : GoodIn wsL_law (wsV RL 73 RX11 yX11_choose wsX11_choose) := sorry
