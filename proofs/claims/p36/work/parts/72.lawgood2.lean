set_option maxRecDepth 20000 in
theorem ggL_law_X11_single : GoodIn wsL_law wsX11_single := sorry
set_option maxRecDepth 20000 in
theorem gL_law_X11_single : GoodIn wsL_law (wsV RL 122 RX11 yX11_single wsX11_single) := sorry
set_option maxRecDepth 20000 in
theorem ggL_law_X12_single : GoodIn wsL_law wsX12_single := sorry
set_option maxRecDepth 20000 in
theorem gL_law_X12_single : GoodIn wsL_law (wsV RL 125 RX12 yX12_single wsX12_single) := sorry
set_option maxRecDepth 20000 in
theorem ggL_law_X11_take : GoodIn wsL_law wsX11_take := sorry
set_option maxRecDepth 20000 in
theorem gL_law_X11_take : GoodIn wsL_law (wsV RL 126 RX11 yX11_take wsX11_take) := sorry
set_option maxRecDepth 20000 in
theorem ggL_law_X12_take : GoodIn wsL_law wsX12_take := sorry
set_option maxRecDepth 20000 in
theorem gL_law_X12_take : GoodIn wsL_law (wsV RL 129 RX12 yX12_take wsX12_take) := sorry
set_option maxRecDepth 20000 in
theorem ggL_law_X11_front : GoodIn wsL_law wsX11_front := sorry
set_option maxRecDepth 20000 in
theorem gL_law_X11_front : GoodIn wsL_law (wsV RL 130 RX11 yX11_front wsX11_front) := sorry
set_option maxRecDepth 20000 in
theorem ggL_law_X12_front : GoodIn wsL_law wsX12_front := sorry
set_option maxRecDepth 20000 in
theorem gL_law_X12_front : GoodIn wsL_law (wsV RL 134 RX12 yX12_front wsX12_front) := sorry
set_option maxRecDepth 20000 in
theorem ggL_law_X11_least : GoodIn wsL_law wsX11_least := sorry
set_option maxRecDepth 20000 in
theorem gL_law_X11_least : GoodIn wsL_law (wsV RL 135 RX11 yX11_least wsX11_least) := sorry
set_option maxRecDepth 20000 in
theorem ggL_law_X12_least : GoodIn wsL_law wsX12_least := sorry
set_option maxRecDepth 20000 in
theorem gL_law_X12_least : GoodIn wsL_law (wsV RL 138 RX12 yX12_least wsX12_least) := sorry
set_option maxRecDepth 20000 in
theorem ggL_law_X11_certificate : GoodIn wsL_law wsX11_certificate := sorry
set_option maxRecDepth 20000 in
theorem gL_law_X11_certificate : GoodIn wsL_law (wsV RL 139 RX11 yX11_certificate wsX11_certificate) := sorry
set_option maxRecDepth 20000 in
theorem ggL_law_X12_certificate : GoodIn wsL_law wsX12_certificate := sorry
set_option maxRecDepth 20000 in
theorem gL_law_X12_certificate : GoodIn wsL_law (wsV RL 142 RX12 yX12_certificate wsX12_certificate) := sorry
set_option maxRecDepth 20000 in
theorem ggL_law_X11_check : GoodIn wsL_law wsX11_check := sorry
set_option maxRecDepth 20000 in
theorem gL_law_X11_check : GoodIn wsL_law (wsV RL 143 RX11 yX11_check wsX11_check) := sorry
set_option maxRecDepth 20000 in
theorem ggL_law_X12_check : GoodIn wsL_law wsX12_check := sorry
set_option maxRecDepth 20000 in
theorem gL_law_X12_check : GoodIn wsL_law (wsV RL 147 RX12 yX12_check wsX12_check) := sorry
set_option maxRecDepth 20000 in
theorem ggL_law_X11_broken : GoodIn wsL_law wsX11_broken := sorry
set_option maxRecDepth 20000 in
theorem gL_law_X11_broken : GoodIn wsL_law (wsV RL 148 RX11 yX11_broken wsX11_broken) := sorry
set_option maxRecDepth 20000 in
theorem ggL_law_X12_broken : GoodIn wsL_law wsX12_broken := sorry
set_option maxRecDepth 20000 in
theorem gL_law_X12_broken : GoodIn wsL_law (wsV RL 151 RX12 yX12_broken wsX12_broken) := sorry
set_option maxRecDepth 20000 in
theorem ggL_law_X11_trials : GoodIn wsL_law wsX11_trials := sorry
set_option maxRecDepth 20000 in
theorem gL_law_X11_trials : GoodIn wsL_law (wsV RL 152 RX11 yX11_trials wsX11_trials) := sorry
set_option maxRecDepth 20000 in
theorem ggL_law_X12_trials : GoodIn wsL_law wsX12_trials := sorry
set_option maxRecDepth 20000 in
theorem gL_law_X12_trials : GoodIn wsL_law (wsV RL 155 RX12 yX12_trials wsX12_trials) := sorry
set_option maxRecDepth 20000 in
theorem ggL_law_X11_trial : GoodIn wsL_law wsX11_trial := sorry
set_option maxRecDepth 20000 in
theorem gL_law_X11_trial : GoodIn wsL_law (wsV RL 156 RX11 yX11_trial wsX11_trial) := sorry
set_option maxRecDepth 20000 in
theorem ggL_law_X12_trial : GoodIn wsL_law wsX12_trial := sorry
set_option maxRecDepth 20000 in
theorem gL_law_X12_trial : GoodIn wsL_law (wsV RL 159 RX12 yX12_trial wsX12_trial) := sorry
set_option maxRecDepth 20000 in
theorem ggL_law_X11_seed : GoodIn wsL_law wsX11_seed := sorry
set_option maxRecDepth 20000 in
theorem gL_law_X11_seed : GoodIn wsL_law (wsV RL 160 RX11 yX11_seed wsX11_seed) := sorry
set_option maxRecDepth 20000 in
theorem ggL_law_X12_seed : GoodIn wsL_law wsX12_seed := sorry
set_option maxRecDepth 20000 in
theorem gL_law_X12_seed : GoodIn wsL_law (wsV RL 163 RX12 yX12_seed wsX12_seed) := sorry
set_option maxRecDepth 20000 in
theorem ggL_law_X11_status : GoodIn wsL_law wsX11_status := sorry
set_option maxRecDepth 20000 in
theorem gL_law_X11_status : GoodIn wsL_law (wsV RL 164 RX11 yX11_status wsX11_status) := sorry
set_option maxRecDepth 20000 in
theorem ggL_law_X12_status : GoodIn wsL_law wsX12_status := sorry
set_option maxRecDepth 20000 in
theorem gL_law_X12_status : GoodIn wsL_law (wsV RL 167 RX12 yX12_status wsX12_status) := sorry
