set_option maxHeartbeats 4000000 in
set_option maxRecDepth 100000 in
theorem sf_X9_hasChoice (v1_0 : Int32) (v2_2 : Int32) (h_v1_0 : 0 ≤ v1_0 ∧ v1_0 ≤ 14) (h_v2_2 : 0 ≤ v2_2 ∧ v2_2 ≤ 1) : zw (fn_X9_hasChoice v1_0 v2_2) (fun r => 0 ≤ r ∧ r ≤ 1 ∧ r ≤ v1_0 ∧ (r = 0 → r ≤ v2_2) ∧ (¬ r = 0 → 1 ≤ r ∧ v2_2 ≤ 0) ∧ (r = 1 → 1 ≤ v1_0 ∧ v2_2 ≤ 0 ∧ v2_2 < r) ∧ (¬ r = 1 → r ≤ 0)) := by
  unfold fn_X9_hasChoice
  refine zw_if (fun c1 => ?_) (fun c1 => ?_)
  · refine zw_some ?_
    first | exact True.intro | ((try dsimp only); first | with_reducible assumption | grind [zu_at, zu_atL, zvn] | ((repeat' apply And.intro) <;> first | with_reducible assumption | first | lia | grind [zu_at, zu_atL, zvn]))
  refine zw_if (fun c2 => ?_) (fun c2 => ?_)
  · refine zw_some ?_
    first | exact True.intro | ((try dsimp only); first | with_reducible assumption | grind [zu_at, zu_atL, zvn] | ((repeat' apply And.intro) <;> first | with_reducible assumption | first | lia | grind [zu_at, zu_atL, zvn]))
  refine zw_some ?_
  first | exact True.intro | ((try dsimp only); first | with_reducible assumption | grind [zu_at, zu_atL, zvn] | ((repeat' apply And.intro) <;> first | with_reducible assumption | first | lia | grind [zu_at, zu_atL, zvn]))
