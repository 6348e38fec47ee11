set_option maxRecDepth 20000 in
theorem ggL_law_X12_choose : GoodIn wsL_law wsX12_choose := sorry
set_option maxRecDepth 20000 in
theorem gL_law_X12_choose : GoodIn wsL_law (wsV RL 76 RX12 yX12_choose wsX12_choose) := sorry
set_option maxRecDepth 20000 in
theorem ggL_law_X11_cost : GoodIn wsL_law wsX11_cost := sorry
set_option maxRecDepth 20000 in
theorem gL_law_X11_cost : GoodIn wsL_law (wsV RL 77 RX11 yX11_cost wsX11_cost) := sorry
set_option maxRecDepth 20000 in
theorem ggL_law_X12_cost : GoodIn wsL_law wsX12_cost := sorry
set_option maxRecDepth 20000 in
theorem gL_law_X12_cost : GoodIn wsL_law (wsV RL 80 RX12 yX12_cost wsX12_cost) := sorry
set_option maxRecDepth 20000 in
theorem ggL_law_X11_casts : GoodIn wsL_law wsX11_casts := sorry
set_option maxRecDepth 20000 in
theorem gL_law_X11_casts : GoodIn wsL_law (wsV RL 81 RX11 yX11_casts wsX11_casts) := sorry
set_option maxRecDepth 20000 in
theorem ggL_law_X12_casts : GoodIn wsL_law wsX12_casts := sorry
set_option maxRecDepth 20000 in
theorem gL_law_X12_casts : GoodIn wsL_law (wsV RL 84 RX12 yX12_casts wsX12_casts) := sorry
set_option maxRecDepth 20000 in
theorem ggL_law_X11_fails : GoodIn wsL_law wsX11_fails := sorry
set_option maxRecDepth 20000 in
theorem gL_law_X11_fails : GoodIn wsL_law (wsV RL 85 RX11 yX11_fails wsX11_fails) := sorry
set_option maxRecDepth 20000 in
theorem ggL_law_X12_fails : GoodIn wsL_law wsX12_fails := sorry
set_option maxRecDepth 20000 in
theorem gL_law_X12_fails : GoodIn wsL_law (wsV RL 88 RX12 yX12_fails wsX12_fails) := sorry
set_option maxRecDepth 20000 in
theorem ggL_law_X11_why : GoodIn wsL_law wsX11_why := sorry
set_option maxRecDepth 20000 in
theorem gL_law_X11_why : GoodIn wsL_law (wsV RL 89 RX11 yX11_why wsX11_why) := sorry
set_option maxRecDepth 20000 in
theorem ggL_law_X12_why : GoodIn wsL_law wsX12_why := sorry
set_option maxRecDepth 20000 in
theorem gL_law_X12_why : GoodIn wsL_law (wsV RL 92 RX12 yX12_why wsX12_why) := sorry
set_option maxRecDepth 20000 in
theorem ggL_law_X11_error : GoodIn wsL_law wsX11_error := sorry
set_option maxRecDepth 20000 in
theorem gL_law_X11_error : GoodIn wsL_law (wsV RL 93 RX11 yX11_error wsX11_error) := sorry
set_option maxRecDepth 20000 in
theorem ggL_law_X12_error : GoodIn wsL_law wsX12_error := sorry
set_option maxRecDepth 20000 in
theorem gL_law_X12_error : GoodIn wsL_law (wsV RL 97 RX12 yX12_error wsX12_error) := sorry
set_option maxRecDepth 20000 in
theorem ggL_law_X11_slack : GoodIn wsL_law wsX11_slack := sorry
set_option maxRecDepth 20000 in
theorem gL_law_X11_slack : GoodIn wsL_law (wsV RL 98 RX11 yX11_slack wsX11_slack) := sorry
set_option maxRecDepth 20000 in
theorem ggL_law_X12_slack : GoodIn wsL_law wsX12_slack := sorry
set_option maxRecDepth 20000 in
theorem gL_law_X12_slack : GoodIn wsL_law (wsV RL 101 RX12 yX12_slack wsX12_slack) := sorry
set_option maxRecDepth 20000 in
theorem ggL_law_X11_widest : GoodIn wsL_law wsX11_widest := sorry
set_option maxRecDepth 20000 in
theorem gL_law_X11_widest : GoodIn wsL_law (wsV RL 102 RX11 yX11_widest wsX11_widest) := sorry
set_option maxRecDepth 20000 in
theorem ggL_law_X12_widest : GoodIn wsL_law wsX12_widest := sorry
set_option maxRecDepth 20000 in
theorem gL_law_X12_widest : GoodIn wsL_law (wsV RL 105 RX12 yX12_widest wsX12_widest) := sorry
set_option maxRecDepth 20000 in
theorem ggL_law_X11_blame : GoodIn wsL_law wsX11_blame := sorry
set_option maxRecDepth 20000 in
theorem gL_law_X11_blame : GoodIn wsL_law (wsV RL 106 RX11 yX11_blame wsX11_blame) := sorry
set_option maxRecDepth 20000 in
theorem ggL_law_X12_blame : GoodIn wsL_law wsX12_blame := sorry
set_option maxRecDepth 20000 in
theorem gL_law_X12_blame : GoodIn wsL_law (wsV RL 109 RX12 yX12_blame wsX12_blame) := sorry
set_option maxRecDepth 20000 in
theorem ggL_law_X11_cheapest : GoodIn wsL_law wsX11_cheapest := sorry
set_option maxRecDepth 20000 in
theorem gL_law_X11_cheapest : GoodIn wsL_law (wsV RL 110 RX11 yX11_cheapest wsX11_cheapest) := sorry
set_option maxRecDepth 20000 in
theorem ggL_law_X12_cheapest : GoodIn wsL_law wsX12_cheapest := sorry
set_option maxRecDepth 20000 in
theorem gL_law_X12_cheapest : GoodIn wsL_law (wsV RL 113 RX12 yX12_cheapest wsX12_cheapest) := sorry
set_option maxRecDepth 20000 in
theorem ggL_law_X11_passing : GoodIn wsL_law wsX11_passing := sorry
set_option maxRecDepth 20000 in
theorem gL_law_X11_passing : GoodIn wsL_law (wsV RL 114 RX11 yX11_passing wsX11_passing) := sorry
set_option maxRecDepth 20000 in
theorem ggL_law_X12_passing : GoodIn wsL_law wsX12_passing := sorry
set_option maxRecDepth 20000 in
theorem gL_law_X12_passing : GoodIn wsL_law (wsV RL 117 RX12 yX12_passing wsX12_passing) := sorry
set_option maxRecDepth 20000 in
theorem ggL_law_X11_halves : GoodIn wsL_law wsX11_halves := sorry
set_option maxRecDepth 20000 in
theorem gL_law_X11_halves : GoodIn wsL_law (wsV RL 118 RX11 yX11_halves wsX11_halves) := sorry
set_option maxRecDepth 20000 in
theorem ggL_law_X12_halves : GoodIn wsL_law wsX12_halves := sorry
set_option maxRecDepth 20000 in
theorem gL_law_X12_halves : GoodIn wsL_law (wsV RL 121 RX12 yX12_halves wsX12_halves) := sorry
