set_option maxHeartbeats 4000000 in
set_option maxRecDepth 100000 in
theorem sf_X12_trials (p1 : Int32) (p2 : Int32) (v0_33 : Int32) (w0_34 : Int64) (v0_38 : Int32) (v0_41 : Int32) (v0_42 : Int32) (v0_64 : Int32) (f1 : Nat → Int32) (f2 : Nat → Int32) (f3 : Nat → Int32) (f4 : Nat → Int32) (f5 : Nat → Int32) (f6 : Nat → Int32) (f7 : Nat → Int32) (f8 : Nat → Int64) (f9 : Nat → Int64) (f10 : Nat → Int64) (f11 : Nat → Int64) (f12 : Nat → Int32) (f13 : Nat → Int64) (f14 : Nat → Int32) (f15 : Nat → Int32) (f16 : Nat → Int64) (f17 : Nat → Int64) (h_v0_38 : 0 ≤ v0_38 ∧ v0_38 ≤ 1) (h_f2 : (∀ i : Nat, 0 ≤ f2 i ∧ f2 i ≤ 14)) (h_f3 : (∀ i : Nat, 0 ≤ f3 i ∧ f3 i ≤ 3)) (h_f4 : (∀ i : Nat, 0 ≤ f4 i ∧ f4 i ≤ 3)) (h_f6 : (∀ i : Nat, (-1) ≤ f6 i ∧ f6 i ≤ 13)) (h_f7 : (∀ i : Nat, (-1) ≤ f7 i ∧ f7 i ≤ 13)) (hx_0 : f2 (0 : Int32).toNatClampNeg ≤ 0 ∨ (∀ i : Nat, 1 ≤ f12 (f3 i).toNatClampNeg) ∧ (∀ i : Nat, 1 ≤ f12 (f4 i).toNatClampNeg)) : zw (fn_X12_trials p1 p2 v0_33 w0_34 v0_38 v0_41 v0_42 v0_64 f1 f2 f3 f4 f5 f6 f7 f8 f9 f10 f11 f12 f13 f14 f15 f16 f17) (fun r => (∀ i : Nat, 0 ≤ r.2.2.2.2.2.2.1 i ∧ r.2.2.2.2.2.2.1 i ≤ 3) ∧ (∀ i : Nat, r.2.2.2.2.2.2.1 i = f3 i ∨ r.2.2.2.2.2.2.1 i = f4 i)) := by
  unfold fn_X12_trials
  refine zw_zb0 (sf_X12_isIn p1.toInt64 (1 : Int64) (40 : Int64)) (fun o_1 ho_1 => ?_)
  obtain ⟨ho_1_0, ho_1_1, ho_1_2, ho_1_3, ho_1_4⟩ := ho_1
  refine zw_if (fun c1 => ?_) (fun c1 => ?_)
  · refine zw_zb0 (sf_X12_refuses 4 f1 (by first | with_reducible assumption | exact ⟨by with_reducible assumption, by with_reducible assumption⟩ | first | lia | grind [zu_at, zu_atL, zvn])) (fun o_6 ho_6 => ?_)
    obtain ⟨o_6_0, o_6_1⟩ := o_6
    try dsimp only at ho_6
    obtain ⟨ho_6_0, ho_6_1⟩ := ho_6
    refine zw_some ?_
    first | exact True.intro | ((try dsimp only); (repeat' apply And.intro) <;> first | with_reducible assumption | first | lia | grind [zu_at, zu_atL, zvn])
  refine zw_zb0 (sf_X12_isNumber p2 f2 (by first | with_reducible assumption | exact ⟨by with_reducible assumption, by with_reducible assumption⟩ | first | lia | grind [zu_at, zu_atL, zvn])) (fun o_10 ho_10 => ?_)
  obtain ⟨ho_10_0, ho_10_1, ho_10_2, ho_10_3, ho_10_4, ho_10_5⟩ := ho_10
  refine zw_if (fun c2 => ?_) (fun c2 => ?_)
  · refine zw_zb0 (sf_X12_refuses 4 f1 (by first | with_reducible assumption | exact ⟨by with_reducible assumption, by with_reducible assumption⟩ | first | lia | grind [zu_at, zu_atL, zvn])) (fun o_15 ho_15 => ?_)
    obtain ⟨o_15_0, o_15_1⟩ := o_15
    try dsimp only at ho_15
    obtain ⟨ho_15_0, ho_15_1⟩ := ho_15
    refine zw_some ?_
    first | exact True.intro | ((try dsimp only); (repeat' apply And.intro) <;> first | with_reducible assumption | first | lia | grind [zu_at, zu_atL, zvn])
  refine zw_zb0 (sf_X12_handPasses w0_34 v0_38 v0_41 v0_42 f2 f3 f4 f5 f6 f7 f8 f9 f10 f11 f12 f13 f14 f15 (by first | with_reducible assumption | exact ⟨by with_reducible assumption, by with_reducible assumption⟩ | first | lia | grind [zu_at, zu_atL, zvn]) (by first | with_reducible assumption | exact ⟨by with_reducible assumption, by with_reducible assumption⟩ | first | lia | grind [zu_at, zu_atL, zvn]) (by first | with_reducible assumption | exact ⟨by with_reducible assumption, by with_reducible assumption⟩ | first | lia | grind [zu_at, zu_atL, zvn]) (by first | with_reducible assumption | exact ⟨by with_reducible assumption, by with_reducible assumption⟩ | first | lia | grind [zu_at, zu_atL, zvn]) (by first | with_reducible assumption | exact ⟨by with_reducible assumption, by with_reducible assumption⟩ | first | lia | grind [zu_at, zu_atL, zvn]) (by first | with_reducible assumption | exact ⟨by with_reducible assumption, by with_reducible assumption⟩ | first | lia | grind [zu_at, zu_atL, zvn]) (by first | with_reducible assumption | exact ⟨by with_reducible assumption, by with_reducible assumption⟩ | first | lia | grind [zu_at, zu_atL, zvn])) (fun o_19 ho_19 => ?_)
  obtain ⟨o_19_0, o_19_1, o_19_2, o_19_3, o_19_4, o_19_5, o_19_6, o_19_7⟩ := o_19
  try dsimp only at ho_19
  obtain ⟨ho_19_0, ho_19_1, ho_19_2, ho_19_3, ho_19_4, ho_19_5, ho_19_6, ho_19_7, ho_19_8, ho_19_9, ho_19_10⟩ := ho_19
  refine zw_if (fun c3 => ?_) (fun c3 => ?_)
  · refine zw_zb0 (sf_X12_refuses 4 f1 (by first | with_reducible assumption | exact ⟨by with_reducible assumption, by with_reducible assumption⟩ | first | lia | grind [zu_at, zu_atL, zvn])) (fun o_39 ho_39 => ?_)
    obtain ⟨o_39_0, o_39_1⟩ := o_39
    try dsimp only at ho_39
    obtain ⟨ho_39_0, ho_39_1⟩ := ho_39
    refine zw_some ?_
    first | exact True.intro | ((try dsimp only); (repeat' apply And.intro) <;> first | with_reducible assumption | first | lia | grind [zu_at, zu_atL, zvn])
  have hz1 : (1 : Int64) ≤ p1.toInt64 ↔ 1 ≤ p1 := z64_le 1 p1
  have hz2 : p1.toInt64 ≤ (40 : Int64) ↔ p1 ≤ 40 := z64_le p1 40
  have hz3 : 1 ≤ p1 ∧ p1 ≤ 40 := by grind
  refine zw_zl32 (fun s_24 => 0 ≤ s_24.1 ∧ 0 ≤ s_24.2.1 ∧ s_24.2.1 ≤ 40 ∧ s_24.2.1 ≤ p1) (fun s_24 => 40 - s_24.2.1) (by (try dsimp only); (repeat' apply And.intro) <;> first | with_reducible assumption | first | lia | grind [zu_at, zu_atL, zvn]) (by (try dsimp only); first | lia | grind [zu_at, zu_atL, zvn]) (fun s_24 back_24 Hback_24 hback_24 => ?_)
  obtain ⟨s_24_0, s_24_1, s_24_2, s_24_3, s_24_4⟩ := s_24
  try dsimp only at Hback_24 hback_24
  obtain ⟨Hback_24_0, Hback_24_1, Hback_24_2, Hback_24_3⟩ := Hback_24
  refine zw_if (fun c4 => ?_) (fun c4 => ?_)
  · refine zw_some ?_
    first | exact True.intro | ((try dsimp only); (repeat' apply And.intro) <;> first | with_reducible assumption | first | lia | grind [zu_at, zu_atL, zvn])
  refine zw_zb0 (sf_X12_triesOnce s_24_2 f2 f3 f12 f5 f6 f7 s_24_3 f9 f10 s_24_4 (by first | with_reducible assumption | exact ⟨by with_reducible assumption, by with_reducible assumption⟩ | first | lia | grind [zu_at, zu_atL, zvn]) (by first | with_reducible assumption | exact ⟨by with_reducible assumption, by with_reducible assumption⟩ | first | lia | grind [zu_at, zu_atL, zvn]) (by first | with_reducible assumption | exact ⟨by with_reducible assumption, by with_reducible assumption⟩ | first | lia | grind [zu_at, zu_atL, zvn]) (by first | with_reducible assumption | exact ⟨by with_reducible assumption, by with_reducible assumption⟩ | first | lia | grind [zu_at, zu_atL, zvn]) (by first | with_reducible assumption | exact ⟨by with_reducible assumption, by with_reducible assumption⟩ | first | lia | grind [zu_at, zu_atL, zvn])) (fun o_26 ho_26 => ?_)
  obtain ⟨o_26_0, o_26_1, o_26_2⟩ := o_26
  try dsimp only at ho_26
  refine zw_zg32 14 (by decide) (by (try dsimp only); first | lia | grind [zu_at, zu_atL, zvn]) ?_
  refine zw_zb0 (sf_X12_amount ((o_26_2 p2.toNatClampNeg) - (o_26_1 p2.toNatClampNeg))) (fun o_31 ho_31 => ?_)
  refine zw_zb0 (sf_X12_greater s_24_0 o_31) (fun o_35 ho_35 => ?_)
  exact hback_24 _ (by (try dsimp only); (repeat' apply And.intro) <;> first | with_reducible assumption | first | lia | grind [zu_at, zu_atL, zvn]) (by (try dsimp only); first | lia | grind [zu_at, zu_atL, zvn]) (by (try dsimp only); first | lia | grind [zu_at, zu_atL, zvn])
set_option maxHeartbeats 4000000 in
set_option maxRecDepth 100000 in
theorem sf_X12_trial (p1 : Int32) (p2 : Int32) (v0_33 : Int32) (w0_34 : Int64) (v0_38 : Int32) (v0_41 : Int32) (v0_42 : Int32) (v0_64 : Int32) (f1 : Nat → Int32) (f2 : Nat → Int32) (f3 : Nat → Int32) (f4 : Nat → Int32) (f5 : Nat → Int32) (f6 : Nat → Int32) (f7 : Nat → Int64) (f8 : Nat → Int64) (f9 : Nat → Int64) (f10 : Nat → Int64) (f11 : Nat → Int32) (f12 : Nat → Int64) (f13 : Nat → Int32) (f14 : Nat → Int32) (f15 : Nat → Int64) (f16 : Nat → Int64) (h_p2 : 0 ≤ p2 ∧ p2 ≤ 1) (h_v0_38 : 0 ≤ v0_38 ∧ v0_38 ≤ 1) (h_f1 : (∀ i : Nat, 0 ≤ f1 i ∧ f1 i ≤ 14)) (h_f2 : (∀ i : Nat, 0 ≤ f2 i ∧ f2 i ≤ 3)) (h_f3 : (∀ i : Nat, 0 ≤ f3 i ∧ f3 i ≤ 3)) (h_f5 : (∀ i : Nat, (-1) ≤ f5 i ∧ f5 i ≤ 13)) (h_f6 : (∀ i : Nat, (-1) ≤ f6 i ∧ f6 i ≤ 13)) (hx_0 : f1 (0 : Int32).toNatClampNeg ≤ 0 ∨ (∀ i : Nat, 1 ≤ f11 (f2 i).toNatClampNeg) ∧ (∀ i : Nat, 1 ≤ f11 (f3 i).toNatClampNeg)) : zw (fn_X12_trial p1 p2 v0_33 w0_34 v0_38 v0_41 v0_42 v0_64 f1 f2 f3 f4 f5 f6 f7 f8 f9 f10 f11 f12 f13 f14 f15 f16) (fun r => (∀ i : Nat, 0 ≤ r.2.2.2.2.2.1 i ∧ r.2.2.2.2.2.1 i ≤ 3) ∧ (∀ i : Nat, r.2.2.2.2.2.1 i = f2 i ∨ r.2.2.2.2.2.1 i = f3 i)) := by
  unfold fn_X12_trial
  refine zw_zb0 (sf_X12_isNumber p1 f1 (by first | with_reducible assumption | exact ⟨by with_reducible assumption, by with_reducible assumption⟩ | first | lia | grind [zu_at, zu_atL, zvn])) (fun o_1 ho_1 => ?_)
  obtain ⟨ho_1_0, ho_1_1, ho_1_2, ho_1_3, ho_1_4, ho_1_5⟩ := ho_1
  refine zw_if (fun c1 => ?_) (fun c1 => ?_)
  · refine zw_some ?_
    first | exact True.intro | ((try dsimp only); (repeat' apply And.intro) <;> first | with_reducible assumption | first | lia | grind [zu_at, zu_atL, zvn])
  refine zw_zb0 (sf_X12_handPasses w0_34 v0_38 v0_41 v0_42 f1 f2 f3 f4 f5 f6 f7 f8 f9 f10 f11 f12 f13 f14 (by first | with_reducible assumption | exact ⟨by with_reducible assumption, by with_reducible assumption⟩ | first | lia | grind [zu_at, zu_atL, zvn]) (by first | with_reducible assumption | exact ⟨by with_reducible assumption, by with_reducible assumption⟩ | first | lia | grind [zu_at, zu_atL, zvn]) (by first | with_reducible assumption | exact ⟨by with_reducible assumption, by with_reducible assumption⟩ | first | lia | grind [zu_at, zu_atL, zvn]) (by first | with_reducible assumption | exact ⟨by with_reducible assumption, by with_reducible assumption⟩ | first | lia | grind [zu_at, zu_atL, zvn]) (by first | with_reducible assumption | exact ⟨by with_reducible assumption, by with_reducible assumption⟩ | first | lia | grind [zu_at, zu_atL, zvn]) (by first | with_reducible assumption | exact ⟨by with_reducible assumption, by with_reducible assumption⟩ | first | lia | grind [zu_at, zu_atL, zvn]) (by first | with_reducible assumption | exact ⟨by with_reducible assumption, by with_reducible assumption⟩ | first | lia | grind [zu_at, zu_atL, zvn])) (fun o_6 ho_6 => ?_)
  obtain ⟨o_6_0, o_6_1, o_6_2, o_6_3, o_6_4, o_6_5, o_6_6, o_6_7⟩ := o_6
  try dsimp only at ho_6
  obtain ⟨ho_6_0, ho_6_1, ho_6_2, ho_6_3, ho_6_4, ho_6_5, ho_6_6, ho_6_7, ho_6_8, ho_6_9, ho_6_10⟩ := ho_6
  refine zw_if (fun c2 => ?_) (fun c2 => ?_)
  · refine zw_some ?_
    first | exact True.intro | ((try dsimp only); (repeat' apply And.intro) <;> first | with_reducible assumption | first | lia | grind [zu_at, zu_atL, zvn])
  refine zw_zb0 (sf_X12_triesOnce v0_64 f1 f2 f11 f4 f5 f6 f15 f8 f9 f16 (by first | with_reducible assumption | exact ⟨by with_reducible assumption, by with_reducible assumption⟩ | first | lia | grind [zu_at, zu_atL, zvn]) (by first | with_reducible assumption | exact ⟨by with_reducible assumption, by with_reducible assumption⟩ | first | lia | grind [zu_at, zu_atL, zvn]) (by first | with_reducible assumption | exact ⟨by with_reducible assumption, by with_reducible assumption⟩ | first | lia | grind [zu_at, zu_atL, zvn]) (by first | with_reducible assumption | exact ⟨by with_reducible assumption, by with_reducible assumption⟩ | first | lia | grind [zu_at, zu_atL, zvn]) (by first | with_reducible assumption | exact ⟨by with_reducible assumption, by with_reducible assumption⟩ | first | lia | grind [zu_at, zu_atL, zvn])) (fun o_11 ho_11 => ?_)
  obtain ⟨o_11_0, o_11_1, o_11_2⟩ := o_11
  try dsimp only at ho_11
  refine zw_if (fun c3 => ?_) (fun c3 => ?_)
  · refine zw_zg32 14 (by decide) (by (try dsimp only); first | lia | grind [zu_at, zu_atL, zvn]) ?_
    refine zw_some ?_
    first | exact True.intro | ((try dsimp only); (repeat' apply And.intro) <;> first | with_reducible assumption | first | lia | grind [zu_at, zu_atL, zvn])
  refine zw_zg32 14 (by decide) (by (try dsimp only); first | lia | grind [zu_at, zu_atL, zvn]) ?_
  refine zw_some ?_
  first | exact True.intro | ((try dsimp only); (repeat' apply And.intro) <;> first | with_reducible assumption | first | lia | grind [zu_at, zu_atL, zvn])
set_option maxHeartbeats 4000000 in
set_option maxRecDepth 100000 in
theorem sf_X12_seed (p1 : Int32) (v0_64 : Int32) (f1 : Nat → Int32) : zw (fn_X12_seed p1 v0_64 f1) (fun r => 0 ≤ r.1 ∧ r.1 ≤ 1) := by
  unfold fn_X12_seed
  refine zw_if (fun c1 => ?_) (fun c1 => ?_)
  · refine zw_some ?_
    first | exact True.intro | ((try dsimp only); (repeat' apply And.intro) <;> first | with_reducible assumption | first | lia | grind [zu_at, zu_atL, zvn])
  refine zw_zb0 (sf_X12_isRefused 4 f1 (by first | with_reducible assumption | exact ⟨by with_reducible assumption, by with_reducible assumption⟩ | first | lia | grind [zu_at, zu_atL, zvn])) (fun o_2 ho_2 => ?_)
  obtain ⟨o_2_0, o_2_1⟩ := o_2
  try dsimp only at ho_2
  obtain ⟨ho_2_0, ho_2_1, ho_2_2⟩ := ho_2
  refine zw_some ?_
  first | exact True.intro | ((try dsimp only); (repeat' apply And.intro) <;> first | with_reducible assumption | first | lia | grind [zu_at, zu_atL, zvn])
set_option maxHeartbeats 4000000 in
set_option maxRecDepth 100000 in
theorem sf_X12_status (p1 : Int32) (f1 : Nat → Int32) : zw (fn_X12_status p1 f1) (fun r => True) := by
  unfold fn_X12_status
  refine zw_zb0 (sf_X12_isIn p1.toInt64 (0 : Int64) (4 : Int64)) (fun o_1 ho_1 => ?_)
  obtain ⟨ho_1_0, ho_1_1, ho_1_2, ho_1_3, ho_1_4⟩ := ho_1
  refine zw_if (fun c1 => ?_) (fun c1 => ?_)
  · refine zw_some ?_
    first | exact True.intro | ((try dsimp only); (repeat' apply And.intro) <;> first | with_reducible assumption | first | lia | grind [zu_at, zu_atL, zvn])
  have hz1 := z64_ge0 p1
  have hz2 : p1.toInt64 ≤ (4 : Int64) ↔ p1 ≤ 4 := z64_le p1 4
  have hz3 : 0 ≤ p1 ∧ p1 ≤ 4 := by grind
  refine zw_zg32 5 (by decide) (by (try dsimp only); first | lia | grind [zu_at, zu_atL, zvn]) ?_
  refine zw_some ?_
  first | exact True.intro | ((try dsimp only); (repeat' apply And.intro) <;> first | with_reducible assumption | first | lia | grind [zu_at, zu_atL, zvn])
