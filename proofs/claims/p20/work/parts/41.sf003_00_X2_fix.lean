set_option maxHeartbeats 4000000 in
set_option maxRecDepth 100000 in
theorem sf_X2_fix (p1 : Int32) (p2 : Int32) (v0_2 : Int32) (f1 : Nat → Int32) (h_p1 : 0 ≤ p1 ∧ p1 ≤ 13) (h_v0_2 : 0 ≤ v0_2 ∧ v0_2 ≤ 1) : zw (fn_X2_fix p1 p2 v0_2 f1) (fun r => 0 ≤ r.1 ∧ r.1 ≤ 1) := by
  unfold fn_X2_fix
  refine zw_if (fun c1 => ?_) (fun c1 => ?_)
  · refine zw_some ?_
    first | exact True.intro | ((try dsimp only); (repeat' apply And.intro) <;> first | with_reducible assumption | first | lia | grind [zu_at, zu_atL, zvn])
  refine zw_zg32 14 (by decide) (by (try dsimp only); first | lia | grind [zu_at, zu_atL, zvn]) ?_
  refine zw_if (fun c2 => ?_) (fun c2 => ?_)
  · refine zw_some ?_
    first | exact True.intro | ((try dsimp only); (repeat' apply And.intro) <;> first | with_reducible assumption | first | lia | grind [zu_at, zu_atL, zvn])
  refine zw_zj (fun s_4 => 0 ≤ s_4 ∧ s_4 ≤ 1 ∧ v0_2 ≤ s_4) (fun s_4 Hj_4 => ?_) (fun j_4 hj_4 => ?_)
  · obtain ⟨Hj_4_0, Hj_4_1, Hj_4_2⟩ := Hj_4
    refine zw_zt (by (try dsimp only); first | lia | grind [zu_at, zu_atL, zvn]) ?_
    refine zw_zg32 14 (by decide) (by (try dsimp only); first | lia | grind [zu_at, zu_atL, zvn]) ?_
    refine zw_if (fun c3 => ?_) (fun c3 => ?_)
    · refine zw_some ?_
      first | exact True.intro | ((try dsimp only); (repeat' apply And.intro) <;> first | with_reducible assumption | first | lia | grind [zu_at, zu_atL, zvn])
    refine zw_some ?_
    first | exact True.intro | ((try dsimp only); (repeat' apply And.intro) <;> first | with_reducible assumption | first | lia | grind [zu_at, zu_atL, zvn])
  refine zw_zj (fun _ => True) (fun s_8 Hj_8 => ?_) (fun j_8 hj_8 => ?_)
  · exact hj_4 _ (by first | exact True.intro | ((try dsimp only); (repeat' apply And.intro) <;> first | with_reducible assumption | first | lia | grind [zu_at, zu_atL, zvn]))
  refine zw_if (fun c4 => ?_) (fun c4 => ?_)
  · refine zw_if (fun c5 => ?_) (fun c5 => ?_)
    · exact hj_4 _ (by first | exact True.intro | ((try dsimp only); (repeat' apply And.intro) <;> first | with_reducible assumption | first | lia | grind [zu_at, zu_atL, zvn]))
    exact hj_8 _ (by first | exact True.intro | ((try dsimp only); (repeat' apply And.intro) <;> first | with_reducible assumption | first | lia | grind [zu_at, zu_atL, zvn]))
  exact hj_8 _ (by first | exact True.intro | ((try dsimp only); (repeat' apply And.intro) <;> first | with_reducible assumption | first | lia | grind [zu_at, zu_atL, zvn]))
