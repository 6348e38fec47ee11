set_option maxHeartbeats 4000000 in
set_option maxRecDepth 100000 in
theorem sf_X10_kindOf (p0 : Int32) : zw (fn_X10_kindOf p0) (fun r => 1 ≤ r ∧ r ≤ 5) := by
  unfold fn_X10_kindOf
  refine zw_zj (fun _ => True) (fun s_1 Hj_1 => ?_) (fun j_1 hj_1 => ?_)
  · refine zw_zj (fun _ => True) (fun s_2 Hj_2 => ?_) (fun j_2 hj_2 => ?_)
    · refine zw_if (fun c1 => ?_) (fun c1 => ?_)
      · refine zw_some ?_
        first | exact True.intro | ((try dsimp only); first | with_reducible assumption | grind [zu_at, zu_atL, zvn] | ((repeat' apply And.intro) <;> first | with_reducible assumption | first | lia | grind [zu_at, zu_atL, zvn]))
      refine zw_if (fun c2 => ?_) (fun c2 => ?_)
      · refine zw_some ?_
        first | exact True.intro | ((try dsimp only); first | with_reducible assumption | grind [zu_at, zu_atL, zvn] | ((repeat' apply And.intro) <;> first | with_reducible assumption | first | lia | grind [zu_at, zu_atL, zvn]))
      refine zw_some ?_
      first | exact True.intro | ((try dsimp only); first | with_reducible assumption | grind [zu_at, zu_atL, zvn] | ((repeat' apply And.intro) <;> first | with_reducible assumption | first | lia | grind [zu_at, zu_atL, zvn]))
    refine zw_if (fun c3 => ?_) (fun c3 => ?_)
    · exact hj_2 _ (by first | exact True.intro | ((try dsimp only); first | with_reducible assumption | grind [zu_at, zu_atL, zvn] | ((repeat' apply And.intro) <;> first | with_reducible assumption | first | lia | grind [zu_at, zu_atL, zvn])))
    refine zw_if (fun c4 => ?_) (fun c4 => ?_)
    · exact hj_2 _ (by first | exact True.intro | ((try dsimp only); first | with_reducible assumption | grind [zu_at, zu_atL, zvn] | ((repeat' apply And.intro) <;> first | with_reducible assumption | first | lia | grind [zu_at, zu_atL, zvn])))
    refine zw_some ?_
    first | exact True.intro | ((try dsimp only); first | with_reducible assumption | grind [zu_at, zu_atL, zvn] | ((repeat' apply And.intro) <;> first | with_reducible assumption | first | lia | grind [zu_at, zu_atL, zvn]))
  refine zw_if (fun c5 => ?_) (fun c5 => ?_)
  · exact hj_1 _ (by first | exact True.intro | ((try dsimp only); first | with_reducible assumption | grind [zu_at, zu_atL, zvn] | ((repeat' apply And.intro) <;> first | with_reducible assumption | first | lia | grind [zu_at, zu_atL, zvn])))
  refine zw_if (fun c6 => ?_) (fun c6 => ?_)
  · exact hj_1 _ (by first | exact True.intro | ((try dsimp only); first | with_reducible assumption | grind [zu_at, zu_atL, zvn] | ((repeat' apply And.intro) <;> first | with_reducible assumption | first | lia | grind [zu_at, zu_atL, zvn])))
  refine zw_some ?_
  first | exact True.intro | ((try dsimp only); first | with_reducible assumption | grind [zu_at, zu_atL, zvn] | ((repeat' apply And.intro) <;> first | with_reducible assumption | first | lia | grind [zu_at, zu_atL, zvn]))
