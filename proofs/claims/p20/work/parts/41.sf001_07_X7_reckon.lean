set_option maxHeartbeats 4000000 in
set_option maxRecDepth 100000 in
theorem sf_X7_reckon (v1_0 : Int32) (v2_0 : Int32) (f4 : Nat → Int32) (f5 : Nat → Int32) (f6 : Nat → Int32) (f7 : Nat → Int32) (f8 : Nat → Int32) (f9 : Nat → Int64) (f10 : Nat → Int32) (f12 : Nat → Int64) (f13 : Nat → Int64) (f14 : Nat → Int32) (f15 : Nat → Int32) (h_v1_0 : 0 ≤ v1_0 ∧ v1_0 ≤ 4) (h_v2_0 : 0 ≤ v2_0 ∧ v2_0 ≤ 14) (h_f4 : (∀ i : Nat, 0 ≤ f4 i ∧ f4 i ≤ 13)) : zw (fn_X7_reckon v1_0 v2_0 f4 f5 f6 f7 f8 f9 f10 f12 f13 f14 f15) (fun r => 0 ≤ r.1 ∧ r.1 ≤ 1 ∧ (-2) ≤ r.2.1 ∧ 0 ≤ r.2.2.1 ∧ r.2.1 ≤ 13 ∧ r.2.2.1 ≤ 2 ∧ r.2.1 < v2_0 ∧ r.2.2.1 ≤ r.2.1 + 2 ∧ (r.1 = 1 → r.2.1 ≤ (-2) ∧ r.2.2.1 < r.1) ∧ (¬ r.1 = 1 → 0 ≤ r.2.1 ∧ 1 ≤ r.2.2.1 ∧ r.1 ≤ 0) ∧ (r.1 = 0 → 0 ≤ r.2.1 ∧ 1 ≤ r.2.2.1 ∧ r.1 ≤ r.2.1 ∧ r.1 < r.2.2.1 ∧ r.1 ≤ v1_0) ∧ (¬ r.1 = 0 → 1 ≤ r.1 ∧ r.2.1 ≤ (-2))) := by
  unfold fn_X7_reckon
  refine zw_zl32 (fun s_1 => 0 ≤ s_1.1 ∧ s_1.1 ≤ 14 ∧ 0 ≤ s_1.2.1 ∧ s_1.2.1 ≤ 0 ∧ s_1.1 ≤ v2_0) (fun s_1 => 14 - s_1.1) (by (try dsimp only); (repeat' apply And.intro) <;> first | with_reducible assumption | first | lia | grind [zu_at, zu_atL, zvn]) (by (try dsimp only); first | lia | grind [zu_at, zu_atL, zvn]) (fun s_1 back_1 Hback_1 hback_1 => ?_)
  obtain ⟨s_1_0, s_1_1, s_1_2⟩ := s_1
  try dsimp only at Hback_1 hback_1
  obtain ⟨Hback_1_0, Hback_1_1, Hback_1_2, Hback_1_3, Hback_1_4⟩ := Hback_1
  refine zw_if (fun c1 => ?_) (fun c1 => ?_)
  · refine zw_some ?_
    first | exact True.intro | ((try dsimp only); (repeat' apply And.intro) <;> first | with_reducible assumption | first | lia | grind [zu_at, zu_atL, zvn])
  refine zw_zb0 (sf_X7_errorOf s_1_0 v1_0 v2_0 f4 f5 f6 f7 f8 s_1_2 f10 f12 f13 (by first | with_reducible assumption | exact ⟨by with_reducible assumption, by with_reducible assumption⟩ | first | lia | grind [zu_at, zu_atL, zvn]) (by first | with_reducible assumption | exact ⟨by with_reducible assumption, by with_reducible assumption⟩ | first | lia | grind [zu_at, zu_atL, zvn]) (by first | with_reducible assumption | exact ⟨by with_reducible assumption, by with_reducible assumption⟩ | first | lia | grind [zu_at, zu_atL, zvn]) (by first | with_reducible assumption | exact ⟨by with_reducible assumption, by with_reducible assumption⟩ | first | lia | grind [zu_at, zu_atL, zvn])) (fun o_3 ho_3 => ?_)
  refine zw_zg32 14 (by decide) (by (try dsimp only); first | lia | grind [zu_at, zu_atL, zvn]) ?_
  refine zw_zb0 (sf_X9_formatOf s_1_0 v2_0 f4 f5 (by first | with_reducible assumption | exact ⟨by with_reducible assumption, by with_reducible assumption⟩ | first | lia | grind [zu_at, zu_atL, zvn]) (by first | with_reducible assumption | exact ⟨by with_reducible assumption, by with_reducible assumption⟩ | first | lia | grind [zu_at, zu_atL, zvn])) (fun o_8 ho_8 => ?_)
  refine zw_zb0 (sf_X9_mostOf o_8 v1_0 f14 (by first | with_reducible assumption | exact ⟨by with_reducible assumption, by with_reducible assumption⟩ | first | lia | grind [zu_at, zu_atL, zvn])) (fun o_12 ho_12 => ?_)
  refine zw_zb0 (sf_X6_amountOf s_1_0 f12 f13 (by first | with_reducible assumption | exact ⟨by with_reducible assumption, by with_reducible assumption⟩ | first | lia | grind [zu_at, zu_atL, zvn])) (fun o_16 ho_16 => ?_)
  refine zw_zn (fun x_20 ex_20 => ?_)
  refine zw_zj (fun s_21 => 0 ≤ s_21 ∧ s_21 ≤ 2) (fun s_21 Hj_21 => ?_) (fun j_21 hj_21 => ?_)
  · obtain ⟨Hj_21_0, Hj_21_1⟩ := Hj_21
    refine zw_if (fun c2 => ?_) (fun c2 => ?_)
    · exact hback_1 _ (by (try dsimp only); (repeat' apply And.intro) <;> first | with_reducible assumption | first | lia | grind [zu_at, zu_atL, zvn]) (by (try dsimp only); first | lia | grind [zu_at, zu_atL, zvn]) (by (try dsimp only); first | lia | grind [zu_at, zu_atL, zvn])
    refine zw_some ?_
    first | exact True.intro | ((try dsimp only); (repeat' apply And.intro) <;> first | with_reducible assumption | first | lia | grind [zu_at, zu_atL, zvn])
  refine zw_ifc (lg_cmp_le _ _) (fun c3 => ?_) (fun c3 => ?_)
  · refine zw_zb0 (sf_X9_isAnswer s_1_0 v2_0 f15 (by first | with_reducible assumption | exact ⟨by with_reducible assumption, by with_reducible assumption⟩ | first | lia | grind [zu_at, zu_atL, zvn])) (fun o_24 ho_24 => ?_)
    obtain ⟨ho_24_0, ho_24_1, ho_24_2, ho_24_3, ho_24_4, ho_24_5⟩ := ho_24
    refine zw_if (fun c4 => ?_) (fun c4 => ?_)
    · exact hj_21 _ (by first | exact True.intro | ((try dsimp only); (repeat' apply And.intro) <;> first | with_reducible assumption | first | lia | grind [zu_at, zu_atL, zvn]))
    refine zw_ifc (lg_cmp_le _ _) (fun c5 => ?_) (fun c5 => ?_)
    · exact hj_21 _ (by first | exact True.intro | ((try dsimp only); (repeat' apply And.intro) <;> first | with_reducible assumption | first | lia | grind [zu_at, zu_atL, zvn]))
    exact hj_21 _ (by first | exact True.intro | ((try dsimp only); (repeat' apply And.intro) <;> first | with_reducible assumption | first | lia | grind [zu_at, zu_atL, zvn]))
  exact hj_21 _ (by first | exact True.intro | ((try dsimp only); (repeat' apply And.intro) <;> first | with_reducible assumption | first | lia | grind [zu_at, zu_atL, zvn]))
