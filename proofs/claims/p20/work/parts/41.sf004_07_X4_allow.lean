set_option maxHeartbeats 4000000 in
set_option maxRecDepth 100000 in
theorem sf_X4_allow (p1 : Int32) (p2 : Int32) (v0_0 : Int32) (f1 : Nat → Int32) (h_v0_0 : 0 ≤ v0_0 ∧ v0_0 ≤ 14) : zw (fn_X4_allow p1 p2 v0_0 f1) (fun r => True) := by
  unfold fn_X4_allow
  refine zw_if (fun c1 => ?_) (fun c1 => ?_)
  · refine zw_some ?_
    first | exact True.intro | ((try dsimp only); (repeat' apply And.intro) <;> first | with_reducible assumption | first | lia | grind [zu_at, zu_atL, zvn])
  refine zw_if (fun c2 => ?_) (fun c2 => ?_)
  · refine zw_some ?_
    first | exact True.intro | ((try dsimp only); (repeat' apply And.intro) <;> first | with_reducible assumption | first | lia | grind [zu_at, zu_atL, zvn])
  refine zw_zg32 14 (by decide) (by (try dsimp only); first | lia | grind [zu_at, zu_atL, zvn]) ?_
  refine zw_some ?_
  first | exact True.intro | ((try dsimp only); (repeat' apply And.intro) <;> first | with_reducible assumption | first | lia | grind [zu_at, zu_atL, zvn])
