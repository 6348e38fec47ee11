set_option maxHeartbeats 4000000 in
set_option maxRecDepth 100000 in
theorem sf_X4_isAmong (p0 : Int32) (p1 : Int32) (p2 : Int32) : zw (fn_X4_isAmong p0 p1 p2) (fun r => 0 ≤ r ∧ r ≤ 1 ∧ (¬ r = 1 → r ≤ 0) ∧ (¬ r = 0 → 1 ≤ r)) := by
  unfold fn_X4_isAmong
  refine zw_if (fun c1 => ?_) (fun c1 => ?_)
  · refine zw_some ?_
    first | exact True.intro | ((try dsimp only); (repeat' apply And.intro) <;> first | with_reducible assumption | first | lia | grind [zu_at, zu_atL, zvn])
  refine zw_if (fun c2 => ?_) (fun c2 => ?_)
  · refine zw_some ?_
    first | exact True.intro | ((try dsimp only); (repeat' apply And.intro) <;> first | with_reducible assumption | first | lia | grind [zu_at, zu_atL, zvn])
  refine zw_if (fun c3 => ?_) (fun c3 => ?_)
  · refine zw_some ?_
    first | exact True.intro | ((try dsimp only); (repeat' apply And.intro) <;> first | with_reducible assumption | first | lia | grind [zu_at, zu_atL, zvn])
  refine zw_some ?_
  first | exact True.intro | ((try dsimp only); (repeat' apply And.intro) <;> first | with_reducible assumption | first | lia | grind [zu_at, zu_atL, zvn])
