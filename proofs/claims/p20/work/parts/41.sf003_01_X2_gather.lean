set_option maxHeartbeats 4000000 in
set_option maxRecDepth 100000 in
theorem sf_X2_gather (v1_0 : Int32) (f2 : Nat → Int32) (f3 : Nat → Int32) (f4 : Nat → Int32) (f5 : Nat → Int32) (f6 : Nat → Int32) (h_v1_0 : 0 ≤ v1_0 ∧ v1_0 ≤ 14) (h_f3 : (∀ i : Nat, 0 ≤ f3 i ∧ f3 i ≤ 13)) : zw (fn_X2_gather v1_0 f2 f3 f4 f5 f6) (fun r => 0 ≤ r.1 ∧ r.1 ≤ 14 ∧ 0 ≤ r.2.1 ∧ r.2.1 ≤ 14 ∧ 0 ≤ r.2.2.1 ∧ r.2.2.1 ≤ 1 ∧ (∀ i : Nat, 0 ≤ r.2.2.2.1 i ∧ r.2.2.2.1 i ≤ 13)) := by
  unfold fn_X2_gather
  refine zw_zl32 (fun s_1 => (∀ i : Nat, 0 ≤ s_1.2.2.2.1 i ∧ s_1.2.2.2.1 i ≤ 13) ∧ 0 ≤ s_1.1 ∧ s_1.1 ≤ 14 ∧ 0 ≤ s_1.2.1 ∧ s_1.2.1 ≤ 14 ∧ 0 ≤ s_1.2.2.1 ∧ s_1.2.2.1 ≤ 1 ∧ s_1.1 ≤ v1_0 ∧ s_1.2.1 ≤ v1_0 ∧ s_1.2.1 ≤ s_1.1 ∧ s_1.2.2.1 ≤ v1_0 ∧ s_1.2.2.1 ≤ s_1.1) (fun s_1 => 14 - s_1.1) (by (try dsimp only); (repeat' apply And.intro) <;> first | with_reducible assumption | first | lia | grind [zu_at, zu_atL, zvn]) (by (try dsimp only); first | lia | grind [zu_at, zu_atL, zvn]) (fun s_1 back_1 Hback_1 hback_1 => ?_)
  obtain ⟨s_1_0, s_1_1, s_1_2, s_1_3, s_1_4, s_1_5⟩ := s_1
  try dsimp only at Hback_1 hback_1
  obtain ⟨Hback_1_0, Hback_1_1, Hback_1_2, Hback_1_3, Hback_1_4, Hback_1_5, Hback_1_6, Hback_1_7, Hback_1_8, Hback_1_9, Hback_1_10, Hback_1_11⟩ := Hback_1
  refine zw_if (fun c1 => ?_) (fun c1 => ?_)
  · refine zw_zl32 (fun s_3 => 0 ≤ s_3.1 ∧ 0 ≤ s_3.2 ∧ s_3.1 ≤ 14 ∧ s_3.2 ≤ 14 ∧ s_3.1 ≤ v1_0 ∧ s_3.2 ≤ v1_0 ∧ s_3.2 ≤ s_3.1 ∧ s_3.1 ≤ s_1_1) (fun s_3 => 14 - s_3.1) (by (try dsimp only); (repeat' apply And.intro) <;> first | with_reducible assumption | first | lia | grind [zu_at, zu_atL, zvn]) (by (try dsimp only); first | lia | grind [zu_at, zu_atL, zvn]) (fun s_3 back_3 Hback_3 hback_3 => ?_)
    obtain ⟨s_3_0, s_3_1⟩ := s_3
    try dsimp only at Hback_3 hback_3
    obtain ⟨Hback_3_0, Hback_3_1, Hback_3_2, Hback_3_3, Hback_3_4, Hback_3_5, Hback_3_6, Hback_3_7⟩ := Hback_3
    refine zw_if (fun c2 => ?_) (fun c2 => ?_)
    · refine zw_some ?_
      first | exact True.intro | ((try dsimp only); (repeat' apply And.intro) <;> first | with_reducible assumption | first | lia | grind [zu_at, zu_atL, zvn])
    refine zw_zg32 14 (by decide) (by (try dsimp only); first | lia | grind [zu_at, zu_atL, zvn]) ?_
    refine zw_if (fun c3 => ?_) (fun c3 => ?_)
    · exact hback_3 _ (by (try dsimp only); (repeat' apply And.intro) <;> first | with_reducible assumption | first | lia | grind [zu_at, zu_atL, zvn]) (by (try dsimp only); first | lia | grind [zu_at, zu_atL, zvn]) (by (try dsimp only); first | lia | grind [zu_at, zu_atL, zvn])
    exact hback_3 _ (by (try dsimp only); (repeat' apply And.intro) <;> first | with_reducible assumption | first | lia | grind [zu_at, zu_atL, zvn]) (by (try dsimp only); first | lia | grind [zu_at, zu_atL, zvn]) (by (try dsimp only); first | lia | grind [zu_at, zu_atL, zvn])
  refine zw_zb0 (sf_X2_earlierGroup s_1_0 f2 s_1_3 (by first | with_reducible assumption | exact ⟨by with_reducible assumption, by with_reducible assumption⟩ | first | lia | grind [zu_at, zu_atL, zvn]) (by first | with_reducible assumption | exact ⟨by with_reducible assumption, by with_reducible assumption⟩ | first | lia | grind [zu_at, zu_atL, zvn])) (fun o_7 ho_7 => ?_)
  obtain ⟨ho_7_0, ho_7_1⟩ := ho_7
  refine zw_zg32 14 (by decide) (by (try dsimp only); first | lia | grind [zu_at, zu_atL, zvn]) ?_
  refine zw_zj (fun s_12 => (∀ i : Nat, 0 ≤ s_12.2.1 i ∧ s_12.2.1 i ≤ 13) ∧ 0 ≤ s_12.1 ∧ s_12.1 ≤ 14 ∧ s_12.1 ≤ v1_0 ∧ s_1_1 ≤ s_12.1 ∧ s_12.1 ≤ s_1_0 + 1 ∧ s_12.1 ≤ s_1_1 + 1) (fun s_12 Hj_12 => ?_) (fun j_12 hj_12 => ?_)
  · obtain ⟨s_12_0, s_12_1, s_12_2, s_12_3⟩ := s_12
    try dsimp only at Hj_12
    obtain ⟨Hj_12_0, Hj_12_1, Hj_12_2, Hj_12_3, Hj_12_4, Hj_12_5, Hj_12_6⟩ := Hj_12
    refine zw_zg32 14 (by decide) (by (try dsimp only); first | lia | grind [zu_at, zu_atL, zvn]) ?_
    refine zw_zb0 (sf_X2_fix (s_12_1 s_1_0.toNatClampNeg) (f6 s_1_0.toNatClampNeg) s_1_2 s_12_2 (by first | with_reducible assumption | exact ⟨by with_reducible assumption, by with_reducible assumption⟩ | first | lia | grind [zu_at, zu_atL, zvn]) (by first | with_reducible assumption | exact ⟨by with_reducible assumption, by with_reducible assumption⟩ | first | lia | grind [zu_at, zu_atL, zvn])) (fun o_14 ho_14 => ?_)
    obtain ⟨o_14_0, o_14_1⟩ := o_14
    try dsimp only at ho_14
    obtain ⟨ho_14_0, ho_14_1⟩ := ho_14
    exact hback_1 _ (by (try dsimp only); (repeat' apply And.intro) <;> first | with_reducible assumption | first | lia | grind [zu_at, zu_atL, zvn]) (by (try dsimp only); first | lia | grind [zu_at, zu_atL, zvn]) (by (try dsimp only); first | lia | grind [zu_at, zu_atL, zvn])
  refine zw_if (fun c4 => ?_) (fun c4 => ?_)
  · refine zw_zn1 ?_
    refine zw_zg32 14 (by decide) (by (try dsimp only); first | lia | grind [zu_at, zu_atL, zvn]) ?_
    exact hj_12 _ (by first | exact True.intro | ((try dsimp only); (repeat' apply And.intro) <;> first | with_reducible assumption | first | lia | grind [zu_at, zu_atL, zvn]))
  exact hj_12 _ (by first | exact True.intro | ((try dsimp only); (repeat' apply And.intro) <;> first | with_reducible assumption | first | lia | grind [zu_at, zu_atL, zvn]))
