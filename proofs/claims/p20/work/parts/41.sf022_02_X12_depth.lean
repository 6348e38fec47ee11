set_option maxHeartbeats 4000000 in
set_option maxRecDepth 100000 in
theorem sf_X12_depth (p1 : Int32) (f1 : Nat → Int32) (f2 : Nat → Int32) (f3 : Nat → Int32) (f4 : Nat → Int32) (f5 : Nat → Int32) (h_f1 : (∀ i : Nat, 0 ≤ f1 i ∧ f1 i ≤ 14)) (h_f2 : (∀ i : Nat, (-1) ≤ f2 i ∧ f2 i ≤ 13)) (h_f4 : (∀ i : Nat, (-1) ≤ f4 i ∧ f4 i ≤ 13)) : zw (fn_X12_depth p1 f1 f2 f3 f4 f5) (fun r => True) := by
  unfold fn_X12_depth
  refine zw_zb0 (sf_X12_isNumber p1 f1 (by first | with_reducible assumption | exact ⟨by with_reducible assumption, by with_reducible assumption⟩ | first | lia | grind [zu_at, zu_atL, zvn])) (fun o_1 ho_1 => ?_)
  obtain ⟨ho_1_0, ho_1_1, ho_1_2, ho_1_3, ho_1_4, ho_1_5⟩ := ho_1
  refine zw_if (fun c1 => ?_) (fun c1 => ?_)
  · refine zw_some ?_
    first | exact True.intro | ((try dsimp only); (repeat' apply And.intro) <;> first | with_reducible assumption | first | lia | grind [zu_at, zu_atL, zvn])
  refine zw_zl32 (fun s_6 => 0 ≤ s_6.1 ∧ s_6.1 ≤ 14 ∧ s_6.1 ≤ p1 + 1) (fun s_6 => 14 - s_6.1) (by (try dsimp only); (repeat' apply And.intro) <;> first | with_reducible assumption | first | lia | grind [zu_at, zu_atL, zvn]) (by (try dsimp only); first | lia | grind [zu_at, zu_atL, zvn]) (fun s_6 back_6 Hback_6 hback_6 => ?_)
  obtain ⟨s_6_0, s_6_1⟩ := s_6
  try dsimp only at Hback_6 hback_6
  obtain ⟨Hback_6_0, Hback_6_1, Hback_6_2⟩ := Hback_6
  refine zw_if (fun c2 => ?_) (fun c2 => ?_)
  · refine zw_zg32 14 (by decide) (by (try dsimp only); first | lia | grind [zu_at, zu_atL, zvn]) ?_
    refine zw_some ?_
    first | exact True.intro | ((try dsimp only); (repeat' apply And.intro) <;> first | with_reducible assumption | first | lia | grind [zu_at, zu_atL, zvn])
  refine zw_zg32 28 (by decide) (by (try dsimp only); first | lia | grind [zu_at, zu_atL, zvn]) ?_
  refine zw_zb0 (sf_X12_deepOf (f2 s_6_0.toNatClampNeg) s_6_1 (by first | with_reducible assumption | exact ⟨by with_reducible assumption, by with_reducible assumption⟩ | first | lia | grind [zu_at, zu_atL, zvn])) (fun o_10 ho_10 => ?_)
  refine zw_zb0 (sf_X12_deepOf (f4 s_6_0.toNatClampNeg) s_6_1 (by first | with_reducible assumption | exact ⟨by with_reducible assumption, by with_reducible assumption⟩ | first | lia | grind [zu_at, zu_atL, zvn])) (fun o_14 ho_14 => ?_)
  refine zw_if (fun c3 => ?_) (fun c3 => ?_)
  · refine zw_zg32 14 (by decide) (by (try dsimp only); first | lia | grind [zu_at, zu_atL, zvn]) ?_
    exact hback_6 _ (by (try dsimp only); (repeat' apply And.intro) <;> first | with_reducible assumption | first | lia | grind [zu_at, zu_atL, zvn]) (by (try dsimp only); first | lia | grind [zu_at, zu_atL, zvn]) (by (try dsimp only); first | lia | grind [zu_at, zu_atL, zvn])
  refine zw_if (fun c4 => ?_) (fun c4 => ?_)
  · refine zw_zg32 14 (by decide) (by (try dsimp only); first | lia | grind [zu_at, zu_atL, zvn]) ?_
    exact hback_6 _ (by (try dsimp only); (repeat' apply And.intro) <;> first | with_reducible assumption | first | lia | grind [zu_at, zu_atL, zvn]) (by (try dsimp only); first | lia | grind [zu_at, zu_atL, zvn]) (by (try dsimp only); first | lia | grind [zu_at, zu_atL, zvn])
  refine zw_zg32 14 (by decide) (by (try dsimp only); first | lia | grind [zu_at, zu_atL, zvn]) ?_
  exact hback_6 _ (by (try dsimp only); (repeat' apply And.intro) <;> first | with_reducible assumption | first | lia | grind [zu_at, zu_atL, zvn]) (by (try dsimp only); first | lia | grind [zu_at, zu_atL, zvn]) (by (try dsimp only); first | lia | grind [zu_at, zu_atL, zvn])
