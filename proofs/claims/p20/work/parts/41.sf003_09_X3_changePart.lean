set_option maxHeartbeats 4000000 in
set_option maxRecDepth 100000 in
theorem sf_X3_changePart (p2 : Int32) (p3 : Int32) (p4 : Int32) (p5 : Int32) (v0_10 : Int32) (f1 : Nat → Int32) (f2 : Nat → Int32) (v3_0 : Int32) (v3_5 : Int32) (v4_0 : Int32) (f5 : Nat → Int32) (f7 : Nat → Int32) (f8 : Nat → Int32) (v9_1 : Int32) (v9_2 : Int32) (f10 : Nat → Int32) (f11 : Nat → Int32) (f12 : Nat → Int64) (f13 : Nat → Int32) (f15 : Nat → Int64) (f16 : Nat → Int64) (f17 : Nat → Int32) (f18 : Nat → Int32) (f19 : Nat → Int32) (h_p2 : 0 ≤ p2 ∧ p2 ≤ 14) (h_p3 : 0 ≤ p3 ∧ p3 ≤ 14) (h_f1 : (∀ i : Nat, 0 ≤ f1 i ∧ f1 i ≤ 13)) (h_v3_0 : 0 ≤ v3_0 ∧ v3_0 ≤ 4) (h_v4_0 : 0 ≤ v4_0 ∧ v4_0 ≤ 14) (h_f7 : (∀ i : Nat, 0 ≤ f7 i ∧ f7 i ≤ 13)) (h_f19 : (∀ i : Nat, 0 ≤ f19 i ∧ f19 i ≤ 1)) : zw (fn_X3_changePart p2 p3 p4 p5 v0_10 f1 f2 v3_0 v3_5 v4_0 f5 f7 f8 v9_1 v9_2 f10 f11 f12 f13 f15 f16 f17 f18 f19) (fun r => 0 ≤ r.1 ∧ r.1 ≤ 1 ∧ (∀ i : Nat, 0 ≤ r.2.2.2.2.2.2 i ∧ r.2.2.2.2.2.2 i ≤ 1)) := by
  unfold fn_X3_changePart
  refine zw_zb0 (sf_X3_setPart p2 p3 p4 f1 f2 (by first | with_reducible assumption | exact ⟨by with_reducible assumption, by with_reducible assumption⟩ | first | lia | grind [zu_at, zu_atL, zvn]) (by first | with_reducible assumption | exact ⟨by with_reducible assumption, by with_reducible assumption⟩ | first | lia | grind [zu_at, zu_atL, zvn]) (by first | with_reducible assumption | exact ⟨by with_reducible assumption, by with_reducible assumption⟩ | first | lia | grind [zu_at, zu_atL, zvn])) (fun o_1 ho_1 => ?_)
  refine zw_zb0 (sf_X9_priceOf v3_0 v3_5 v4_0 f5 f7 o_1 f8 (by first | with_reducible assumption | exact ⟨by with_reducible assumption, by with_reducible assumption⟩ | first | lia | grind [zu_at, zu_atL, zvn]) (by first | with_reducible assumption | exact ⟨by with_reducible assumption, by with_reducible assumption⟩ | first | lia | grind [zu_at, zu_atL, zvn]) (by first | with_reducible assumption | exact ⟨by with_reducible assumption, by with_reducible assumption⟩ | first | lia | grind [zu_at, zu_atL, zvn])) (fun o_5 ho_5 => ?_)
  refine zw_if (fun c1 => ?_) (fun c1 => ?_)
  · refine zw_zb0 (sf_X3_setPart p2 p3 p5 f1 o_1 (by first | with_reducible assumption | exact ⟨by with_reducible assumption, by with_reducible assumption⟩ | first | lia | grind [zu_at, zu_atL, zvn]) (by first | with_reducible assumption | exact ⟨by with_reducible assumption, by with_reducible assumption⟩ | first | lia | grind [zu_at, zu_atL, zvn]) (by first | with_reducible assumption | exact ⟨by with_reducible assumption, by with_reducible assumption⟩ | first | lia | grind [zu_at, zu_atL, zvn])) (fun o_10 ho_10 => ?_)
    refine zw_some ?_
    first | exact True.intro | ((try dsimp only); (repeat' apply And.intro) <;> first | with_reducible assumption | first | lia | grind [zu_at, zu_atL, zvn])
  refine zw_zb0 (sf_X7_reckon v3_0 v4_0 f7 o_1 f10 f11 f5 f12 f13 f15 f16 f17 f18 (by first | with_reducible assumption | exact ⟨by with_reducible assumption, by with_reducible assumption⟩ | first | lia | grind [zu_at, zu_atL, zvn]) (by first | with_reducible assumption | exact ⟨by with_reducible assumption, by with_reducible assumption⟩ | first | lia | grind [zu_at, zu_atL, zvn]) (by first | with_reducible assumption | exact ⟨by with_reducible assumption, by with_reducible assumption⟩ | first | lia | grind [zu_at, zu_atL, zvn])) (fun o_14 ho_14 => ?_)
  obtain ⟨o_14_0, o_14_1, o_14_2, o_14_3⟩ := o_14
  try dsimp only at ho_14
  obtain ⟨ho_14_0, ho_14_1, ho_14_2, ho_14_3, ho_14_4, ho_14_5, ho_14_6, ho_14_7, ho_14_8, ho_14_9, ho_14_10, ho_14_11⟩ := ho_14
  refine zw_if (fun c2 => ?_) (fun c2 => ?_)
  · refine zw_zb0 (sf_X3_setPart p2 p3 p5 f1 o_1 (by first | with_reducible assumption | exact ⟨by with_reducible assumption, by with_reducible assumption⟩ | first | lia | grind [zu_at, zu_atL, zvn]) (by first | with_reducible assumption | exact ⟨by with_reducible assumption, by with_reducible assumption⟩ | first | lia | grind [zu_at, zu_atL, zvn]) (by first | with_reducible assumption | exact ⟨by with_reducible assumption, by with_reducible assumption⟩ | first | lia | grind [zu_at, zu_atL, zvn])) (fun o_24 ho_24 => ?_)
    refine zw_some ?_
    first | exact True.intro | ((try dsimp only); (repeat' apply And.intro) <;> first | with_reducible assumption | first | lia | grind [zu_at, zu_atL, zvn])
  refine zw_zl32 (fun s_19 => (∀ i : Nat, 0 ≤ s_19.2 i ∧ s_19.2 i ≤ 1) ∧ 0 ≤ s_19.1 ∧ s_19.1 ≤ 14 ∧ p2 ≤ s_19.1) (fun s_19 => 14 - s_19.1) (by (try dsimp only); (repeat' apply And.intro) <;> first | with_reducible assumption | first | lia | grind [zu_at, zu_atL, zvn]) (by (try dsimp only); first | lia | grind [zu_at, zu_atL, zvn]) (fun s_19 back_19 Hback_19 hback_19 => ?_)
  obtain ⟨s_19_0, s_19_1⟩ := s_19
  try dsimp only at Hback_19 hback_19
  obtain ⟨Hback_19_0, Hback_19_1, Hback_19_2, Hback_19_3⟩ := Hback_19
  refine zw_if (fun c3 => ?_) (fun c3 => ?_)
  · refine zw_some ?_
    first | exact True.intro | ((try dsimp only); (repeat' apply And.intro) <;> first | with_reducible assumption | first | lia | grind [zu_at, zu_atL, zvn])
  refine zw_zg32 14 (by decide) (by (try dsimp only); first | lia | grind [zu_at, zu_atL, zvn]) ?_
  refine zw_zg32 14 (by decide) (by (try dsimp only); first | lia | grind [zu_at, zu_atL, zvn]) ?_
  refine zw_zn1 ?_
  exact hback_19 _ (by (try dsimp only); (repeat' apply And.intro) <;> first | with_reducible assumption | first | lia | grind [zu_at, zu_atL, zvn]) (by (try dsimp only); first | lia | grind [zu_at, zu_atL, zvn]) (by (try dsimp only); first | lia | grind [zu_at, zu_atL, zvn])
