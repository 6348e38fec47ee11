set_option maxHeartbeats 4000000 in
set_option maxRecDepth 100000 in
theorem sf_X3_forget  : zw (fn_X3_forget) (fun r => 0 ≤ r ∧ r ≤ 1 ∧ r ≤ 0) := by
  unfold fn_X3_forget
  refine zw_some ?_
  first | exact True.intro | ((try dsimp only); (repeat' apply And.intro) <;> first | with_reducible assumption | first | lia | grind [zu_at, zu_atL, zvn])
