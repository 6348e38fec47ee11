set_option maxHeartbeats 4000000 in
set_option maxRecDepth 100000 in
theorem sf_X3_lookAround (f1 : Nat → Int32) (f2 : Nat → Int32) (v3_0 : Int32) (v3_5 : Int32) (v4_0 : Int32) (f5 : Nat → Int32) (v6_0 : Int32) (f7 : Nat → Int32) (f8 : Nat → Int32) (f9 : Nat → Int32) (v10_1 : Int32) (v10_2 : Int32) (f11 : Nat → Int32) (f12 : Nat → Int32) (f13 : Nat → Int64) (f14 : Nat → Int32) (f16 : Nat → Int64) (f17 : Nat → Int64) (f18 : Nat → Int32) (f19 : Nat → Int32) (h_v3_0 : 0 ≤ v3_0 ∧ v3_0 ≤ 4) (h_v4_0 : 0 ≤ v4_0 ∧ v4_0 ≤ 14) (h_v6_0 : 0 ≤ v6_0 ∧ v6_0 ≤ 14) (h_f7 : (∀ i : Nat, 0 ≤ f7 i ∧ f7 i ≤ 13)) : zw (fn_X3_lookAround f1 f2 v3_0 v3_5 v4_0 f5 v6_0 f7 f8 f9 v10_1 v10_2 f11 f12 f13 f14 f16 f17 f18 f19) (fun r => (-1) ≤ r.2.2.1 ∧ r.2.2.1 ≤ 13 ∧ (-1) ≤ r.2.2.2.1 ∧ r.2.2.2.1 ≤ 3 ∧ r.2.2.1 < v6_0 ∧ r.2.2.2.1 < v3_0 ∧ r.2.2.2.1 ≤ r.2.2.1 + 3) := by
  unfold fn_X3_lookAround
  refine zw_zb0 (sf_X11_copyChoice f1 f2) (fun o_1 ho_1 => ?_)
  refine zw_zb0 (sf_X9_priceOf v3_0 v3_5 v4_0 f5 f7 f1 f8 (by first | with_reducible assumption | exact ⟨by with_reducible assumption, by with_reducible assumption⟩ | first | lia | grind [zu_at, zu_atL, zvn]) (by first | with_reducible assumption | exact ⟨by with_reducible assumption, by with_reducible assumption⟩ | first | lia | grind [zu_at, zu_atL, zvn]) (by first | with_reducible assumption | exact ⟨by with_reducible assumption, by with_reducible assumption⟩ | first | lia | grind [zu_at, zu_atL, zvn])) (fun o_5 ho_5 => ?_)
  refine zw_zl32 (fun s_9 => 0 ≤ s_9.2.1 ∧ s_9.2.1 ≤ 14 ∧ (-1) ≤ s_9.2.2.2.2.1 ∧ s_9.2.2.2.2.1 ≤ 13 ∧ (-1) ≤ s_9.2.2.2.2.2.1 ∧ s_9.2.2.2.2.2.1 ≤ 3 ∧ s_9.1 ≤ o_5 ∧ s_9.2.1 ≤ v6_0 ∧ s_9.2.2.2.2.1 < v6_0 ∧ s_9.2.2.2.2.2.1 < v3_0 ∧ s_9.2.2.2.2.1 < s_9.2.1 ∧ s_9.2.2.2.2.2.1 ≤ v6_0 + 2 ∧ s_9.2.2.2.2.2.1 ≤ s_9.2.1 + 2 ∧ s_9.2.2.2.2.2.1 ≤ s_9.2.2.2.2.1 + 3) (fun s_9 => 14 - s_9.2.1) (by (try dsimp only); (repeat' apply And.intro) <;> first | with_reducible assumption | first | lia | grind [zu_at, zu_atL, zvn]) (by (try dsimp only); first | lia | grind [zu_at, zu_atL, zvn]) (fun s_9 back_9 Hback_9 hback_9 => ?_)
  obtain ⟨s_9_0, s_9_1, s_9_2, s_9_3, s_9_4, s_9_5, s_9_6, s_9_7, s_9_8, s_9_9⟩ := s_9
  try dsimp only at Hback_9 hback_9
  obtain ⟨Hback_9_0, Hback_9_1, Hback_9_2, Hback_9_3, Hback_9_4, Hback_9_5, Hback_9_6, Hback_9_7, Hback_9_8, Hback_9_9, Hback_9_10, Hback_9_11, Hback_9_12, Hback_9_13⟩ := Hback_9
  refine zw_if (fun c1 => ?_) (fun c1 => ?_)
  · refine zw_some ?_
    first | exact True.intro | ((try dsimp only); (repeat' apply And.intro) <;> first | with_reducible assumption | first | lia | grind [zu_at, zu_atL, zvn])
  refine zw_zl32 (fun s_11 => 0 ≤ s_11.2.1 ∧ s_11.2.1 ≤ 4 ∧ (-1) ≤ s_11.2.2.2.2.1 ∧ s_11.2.2.2.2.1 ≤ 13 ∧ (-1) ≤ s_11.2.2.2.2.2.1 ∧ s_11.2.2.2.2.2.1 ≤ 3 ∧ s_11.1 ≤ o_5 ∧ s_11.1 ≤ s_9_0 ∧ s_11.2.1 ≤ v3_0 ∧ s_11.2.2.2.2.1 < v6_0 ∧ s_11.2.2.2.2.2.1 < v3_0 ∧ s_11.2.2.2.2.1 ≤ s_9_1 ∧ s_9_4 ≤ s_11.2.2.2.2.1 ∧ s_11.2.2.2.2.2.1 ≤ s_11.2.2.2.2.1 + 3 ∧ s_9_5 ≤ s_11.2.2.2.2.2.1 + 3) (fun s_11 => 4 - s_11.2.1) (by (try dsimp only); (repeat' apply And.intro) <;> first | with_reducible assumption | first | lia | grind [zu_at, zu_atL, zvn]) (by (try dsimp only); first | lia | grind [zu_at, zu_atL, zvn]) (fun s_11 back_11 Hback_11 hback_11 => ?_)
  obtain ⟨s_11_0, s_11_1, s_11_2, s_11_3, s_11_4, s_11_5, s_11_6, s_11_7, s_11_8, s_11_9⟩ := s_11
  try dsimp only at Hback_11 hback_11
  obtain ⟨Hback_11_0, Hback_11_1, Hback_11_2, Hback_11_3, Hback_11_4, Hback_11_5, Hback_11_6, Hback_11_7, Hback_11_8, Hback_11_9, Hback_11_10, Hback_11_11, Hback_11_12, Hback_11_13, Hback_11_14⟩ := Hback_11
  refine zw_zg32 14 (by decide) (by (try dsimp only); first | lia | grind [zu_at, zu_atL, zvn]) ?_
  refine zw_zj (fun _ => True) (fun s_13 Hj_13 => ?_) (fun j_13 hj_13 => ?_)
  · refine zw_zg32 14 (by decide) (by (try dsimp only); first | lia | grind [zu_at, zu_atL, zvn]) ?_
    refine zw_zn1 ?_
    exact hback_9 _ (by (try dsimp only); (repeat' apply And.intro) <;> first | with_reducible assumption | first | lia | grind [zu_at, zu_atL, zvn]) (by (try dsimp only); first | lia | grind [zu_at, zu_atL, zvn]) (by (try dsimp only); first | lia | grind [zu_at, zu_atL, zvn])
  refine zw_if (fun c2 => ?_) (fun c2 => ?_)
  · refine zw_if (fun c3 => ?_) (fun c3 => ?_)
    · exact hj_13 _ (by first | exact True.intro | ((try dsimp only); (repeat' apply And.intro) <;> first | with_reducible assumption | first | lia | grind [zu_at, zu_atL, zvn]))
    refine zw_if (fun c4 => ?_) (fun c4 => ?_)
    · exact hback_11 _ (by (try dsimp only); (repeat' apply And.intro) <;> first | with_reducible assumption | first | lia | grind [zu_at, zu_atL, zvn]) (by (try dsimp only); first | lia | grind [zu_at, zu_atL, zvn]) (by (try dsimp only); first | lia | grind [zu_at, zu_atL, zvn])
    refine zw_zb0 (sf_X7_reckon v3_0 v4_0 f7 (upd s_11_8 s_9_1.toNatClampNeg s_11_1) f11 f12 f5 s_11_9 f14 f16 f17 f18 f19 (by first | with_reducible assumption | exact ⟨by with_reducible assumption, by with_reducible assumption⟩ | first | lia | grind [zu_at, zu_atL, zvn]) (by first | with_reducible assumption | exact ⟨by with_reducible assumption, by with_reducible assumption⟩ | first | lia | grind [zu_at, zu_atL, zvn]) (by first | with_reducible assumption | exact ⟨by with_reducible assumption, by with_reducible assumption⟩ | first | lia | grind [zu_at, zu_atL, zvn])) (fun o_19 ho_19 => ?_)
    obtain ⟨o_19_0, o_19_1, o_19_2, o_19_3⟩ := o_19
    try dsimp only at ho_19
    obtain ⟨ho_19_0, ho_19_1, ho_19_2, ho_19_3, ho_19_4, ho_19_5, ho_19_6, ho_19_7, ho_19_8, ho_19_9, ho_19_10, ho_19_11⟩ := ho_19
    refine zw_if (fun c5 => ?_) (fun c5 => ?_)
    · exact hback_11 _ (by (try dsimp only); (repeat' apply And.intro) <;> first | with_reducible assumption | first | lia | grind [zu_at, zu_atL, zvn]) (by (try dsimp only); first | lia | grind [zu_at, zu_atL, zvn]) (by (try dsimp only); first | lia | grind [zu_at, zu_atL, zvn])
    refine zw_zb0 (sf_X9_priceOf v3_0 v3_5 v4_0 f5 f7 (upd s_11_8 s_9_1.toNatClampNeg s_11_1) f8 (by first | with_reducible assumption | exact ⟨by with_reducible assumption, by with_reducible assumption⟩ | first | lia | grind [zu_at, zu_atL, zvn]) (by first | with_reducible assumption | exact ⟨by with_reducible assumption, by with_reducible assumption⟩ | first | lia | grind [zu_at, zu_atL, zvn]) (by first | with_reducible assumption | exact ⟨by with_reducible assumption, by with_reducible assumption⟩ | first | lia | grind [zu_at, zu_atL, zvn])) (fun o_24 ho_24 => ?_)
    refine zw_zj (fun s_28 => 0 ≤ s_28 ∧ s_28 ≤ 1) (fun s_28 Hj_28 => ?_) (fun j_28 hj_28 => ?_)
    · obtain ⟨Hj_28_0, Hj_28_1⟩ := Hj_28
      refine zw_if (fun c6 => ?_) (fun c6 => ?_)
      · exact hback_11 _ (by (try dsimp only); (repeat' apply And.intro) <;> first | with_reducible assumption | first | lia | grind [zu_at, zu_atL, zvn]) (by (try dsimp only); first | lia | grind [zu_at, zu_atL, zvn]) (by (try dsimp only); first | lia | grind [zu_at, zu_atL, zvn])
      exact hback_11 _ (by (try dsimp only); (repeat' apply And.intro) <;> first | with_reducible assumption | first | lia | grind [zu_at, zu_atL, zvn]) (by (try dsimp only); first | lia | grind [zu_at, zu_atL, zvn]) (by (try dsimp only); first | lia | grind [zu_at, zu_atL, zvn])
    refine zw_if (fun c7 => ?_) (fun c7 => ?_)
    · exact hj_28 _ (by first | exact True.intro | ((try dsimp only); (repeat' apply And.intro) <;> first | with_reducible assumption | first | lia | grind [zu_at, zu_atL, zvn]))
    exact hj_28 _ (by first | exact True.intro | ((try dsimp only); (repeat' apply And.intro) <;> first | with_reducible assumption | first | lia | grind [zu_at, zu_atL, zvn]))
  exact hj_13 _ (by first | exact True.intro | ((try dsimp only); (repeat' apply And.intro) <;> first | with_reducible assumption | first | lia | grind [zu_at, zu_atL, zvn]))
