set_option maxHeartbeats 4000000 in
set_option maxRecDepth 100000 in
theorem sf_X1_forget  : zw (fn_X1_forget) (fun r => 0 ≤ r.1 ∧ r.1 ≤ 1 ∧ (-1) ≤ r.2 ∧ r.1 ≤ 0 ∧ r.2 ≤ (-1)) := by
  unfold fn_X1_forget
  refine zw_some ?_
  first | exact True.intro | ((try dsimp only); (repeat' apply And.intro) <;> first | with_reducible assumption | first | lia | grind [zu_at, zu_atL, zvn])
