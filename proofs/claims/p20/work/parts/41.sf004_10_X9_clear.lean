set_option maxHeartbeats 4000000 in
set_option maxRecDepth 100000 in
theorem sf_X9_clear  : zw (fn_X9_clear) (fun r => 0 ≤ r.1 ∧ r.1 ≤ 4 ∧ 0 ≤ r.2.2.1 ∧ r.2.2.1 ≤ 14 ∧ 1 ≤ r.2.1 ∧ 0 ≤ r.2.2.2 ∧ r.1 ≤ 0 ∧ r.2.1 ≤ 1 ∧ r.2.2.1 ≤ 0 ∧ r.2.2.2 ≤ 0) := by
  unfold fn_X9_clear
  refine zw_some ?_
  first | exact True.intro | ((try dsimp only); first | with_reducible assumption | grind [zu_at, zu_atL, zvn] | ((repeat' apply And.intro) <;> first | with_reducible assumption | first | lia | grind [zu_at, zu_atL, zvn]))
