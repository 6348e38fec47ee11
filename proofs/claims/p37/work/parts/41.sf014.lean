set_option maxHeartbeats 4000000 in
set_option maxRecDepth 100000 in
theorem sf_X12_must (p1 : Int32) (v0_5 : Int32) (v0_6 : Int32) (v0_7 : Int32) (v0_8 : Int32) (v0_9 : Int32) (f1 : Nat → Int32) (f2 : Nat → Int32) (h_v0_5 : 0 ≤ v0_5 ∧ v0_5 ≤ 1200) (h_v0_6 : 0 ≤ v0_6 ∧ v0_6 ≤ 1200) (h_v0_7 : 0 ≤ v0_7 ∧ v0_7 ≤ 1200) (h_v0_8 : 0 ≤ v0_8 ∧ v0_8 ≤ 4) (h_f1 : (∀ i : Nat, 0 ≤ f1 i ∧ f1 i ≤ 255)) (hx_0 : (∀ k : Nat, k < 71 → f2 k = zTab k)) : zw (fn_X12_must p1 v0_5 v0_6 v0_7 v0_8 v0_9 f1 f2) (fun r => 0 ≤ r.1 ∧ r.1 ≤ 1200 ∧ 0 ≤ r.2.1 ∧ r.2.1 ≤ 1200 ∧ 0 ≤ r.2.2.1 ∧ r.2.2.1 ≤ 4 ∧ v0_6 ≤ r.1 ∧ v0_8 ≤ r.2.2.1) := by
  unfold fn_X12_must
  refine zw_zb0 (sf_X12_word v0_5 v0_6 v0_7 v0_8 v0_9 f1 (by first | with_reducible assumption | exact ⟨by with_reducible assumption, by with_reducible assumption⟩ | first | lia | grind [zu_at, zu_atL, zvn]) (by first | with_reducible assumption | exact ⟨by with_reducible assumption, by with_reducible assumption⟩ | first | lia | grind [zu_at, zu_atL, zvn]) (by first | with_reducible assumption | exact ⟨by with_reducible assumption, by with_reducible assumption⟩ | first | lia | grind [zu_at, zu_atL, zvn]) (by first | with_reducible assumption | exact ⟨by with_reducible assumption, by with_reducible assumption⟩ | first | lia | grind [zu_at, zu_atL, zvn]) (by first | with_reducible assumption | exact ⟨by with_reducible assumption, by with_reducible assumption⟩ | first | lia | grind [zu_at, zu_atL, zvn])) (fun o_1 ho_1 => ?_)
  obtain ⟨o_1_0, o_1_1, o_1_2, o_1_3⟩ := o_1
  try dsimp only at ho_1
  obtain ⟨ho_1_0, ho_1_1, ho_1_2, ho_1_3, ho_1_4, ho_1_5, ho_1_6, ho_1_7⟩ := ho_1
  refine zw_zb0 (sf_X12_goesWell o_1_2 (by first | with_reducible assumption | exact ⟨by with_reducible assumption, by with_reducible assumption⟩ | first | lia | grind [zu_at, zu_atL, zvn])) (fun o_5 ho_5 => ?_)
  obtain ⟨ho_5_0, ho_5_1, ho_5_2, ho_5_3, ho_5_4, ho_5_5⟩ := ho_5
  refine zw_if (fun c1 => ?_) (fun c1 => ?_)
  · refine zw_some ?_
    first | exact True.intro | ((try dsimp only); (repeat' apply And.intro) <;> first | with_reducible assumption | first | lia | grind [zu_at, zu_atL, zvn])
  refine zw_zb0 (sf_X12_own o_1_0 o_1_1 f2 f1 (by first | with_reducible assumption | exact ⟨by with_reducible assumption, by with_reducible assumption⟩ | first | lia | grind [zu_at, zu_atL, zvn]) (by first | with_reducible assumption | exact ⟨by with_reducible assumption, by with_reducible assumption⟩ | first | lia | grind [zu_at, zu_atL, zvn]) (by first | with_reducible assumption | exact ⟨by with_reducible assumption, by with_reducible assumption⟩ | first | lia | grind [zu_at, zu_atL, zvn]) (by first | with_reducible assumption | exact ⟨by with_reducible assumption, by with_reducible assumption⟩ | first | lia | grind [zu_at, zu_atL, zvn])) (fun o_10 ho_10 => ?_)
  obtain ⟨ho_10_0, ho_10_1⟩ := ho_10
  refine zw_if (fun c2 => ?_) (fun c2 => ?_)
  · refine zw_some ?_
    first | exact True.intro | ((try dsimp only); (repeat' apply And.intro) <;> first | with_reducible assumption | first | lia | grind [zu_at, zu_atL, zvn])
  refine zw_zb0 (sf_X12_faults 1 o_1_1 o_1_2 o_1_3 (by first | with_reducible assumption | exact ⟨by with_reducible assumption, by with_reducible assumption⟩ | first | lia | grind [zu_at, zu_atL, zvn]) (by first | with_reducible assumption | exact ⟨by with_reducible assumption, by with_reducible assumption⟩ | first | lia | grind [zu_at, zu_atL, zvn])) (fun o_15 ho_15 => ?_)
  obtain ⟨o_15_0, o_15_1⟩ := o_15
  try dsimp only at ho_15
  obtain ⟨ho_15_0, ho_15_1, ho_15_2, ho_15_3⟩ := ho_15
  refine zw_some ?_
  first | exact True.intro | ((try dsimp only); (repeat' apply And.intro) <;> first | with_reducible assumption | first | lia | grind [zu_at, zu_atL, zvn])
set_option maxHeartbeats 4000000 in
set_option maxRecDepth 100000 in
theorem sf_X12_name (v0_5 : Int32) (v0_6 : Int32) (v0_7 : Int32) (v0_8 : Int32) (v0_9 : Int32) (f1 : Nat → Int32) (f2 : Nat → Int32) (h_v0_5 : 0 ≤ v0_5 ∧ v0_5 ≤ 1200) (h_v0_6 : 0 ≤ v0_6 ∧ v0_6 ≤ 1200) (h_v0_7 : 0 ≤ v0_7 ∧ v0_7 ≤ 1200) (h_v0_8 : 0 ≤ v0_8 ∧ v0_8 ≤ 4) (h_f1 : (∀ i : Nat, 0 ≤ f1 i ∧ f1 i ≤ 255)) (hx_0 : (∀ k : Nat, k < 71 → f2 k = zTab k)) : zw (fn_X12_name v0_5 v0_6 v0_7 v0_8 v0_9 f1 f2) (fun r => 0 ≤ r.2.1 ∧ r.2.1 ≤ 1200 ∧ 0 ≤ r.2.2.1 ∧ r.2.2.1 ≤ 1200 ∧ 0 ≤ r.2.2.2.1 ∧ r.2.2.2.1 ≤ 4 ∧ v0_6 ≤ r.2.1 ∧ v0_8 ≤ r.2.2.2.1) := by
  unfold fn_X12_name
  refine zw_zb0 (sf_X12_word v0_5 v0_6 v0_7 v0_8 v0_9 f1 (by first | with_reducible assumption | exact ⟨by with_reducible assumption, by with_reducible assumption⟩ | first | lia | grind [zu_at, zu_atL, zvn]) (by first | with_reducible assumption | exact ⟨by with_reducible assumption, by with_reducible assumption⟩ | first | lia | grind [zu_at, zu_atL, zvn]) (by first | with_reducible assumption | exact ⟨by with_reducible assumption, by with_reducible assumption⟩ | first | lia | grind [zu_at, zu_atL, zvn]) (by first | with_reducible assumption | exact ⟨by with_reducible assumption, by with_reducible assumption⟩ | first | lia | grind [zu_at, zu_atL, zvn]) (by first | with_reducible assumption | exact ⟨by with_reducible assumption, by with_reducible assumption⟩ | first | lia | grind [zu_at, zu_atL, zvn])) (fun o_1 ho_1 => ?_)
  obtain ⟨o_1_0, o_1_1, o_1_2, o_1_3⟩ := o_1
  try dsimp only at ho_1
  obtain ⟨ho_1_0, ho_1_1, ho_1_2, ho_1_3, ho_1_4, ho_1_5, ho_1_6, ho_1_7⟩ := ho_1
  refine zw_zb0 (sf_X12_goesWell o_1_2 (by first | with_reducible assumption | exact ⟨by with_reducible assumption, by with_reducible assumption⟩ | first | lia | grind [zu_at, zu_atL, zvn])) (fun o_5 ho_5 => ?_)
  obtain ⟨ho_5_0, ho_5_1, ho_5_2, ho_5_3, ho_5_4, ho_5_5⟩ := ho_5
  refine zw_zj (fun s_9 => 0 ≤ s_9.1 ∧ s_9.1 ≤ 4 ∧ v0_8 ≤ s_9.1 ∧ o_1_2 ≤ s_9.1) (fun s_9 Hj_9 => ?_) (fun j_9 hj_9 => ?_)
  · obtain ⟨s_9_0, s_9_1⟩ := s_9
    try dsimp only at Hj_9
    obtain ⟨Hj_9_0, Hj_9_1, Hj_9_2, Hj_9_3⟩ := Hj_9
    refine zw_zl32 (fun s_10 => (-1) ≤ s_10.2 ∧ s_10.2 ≤ 1199 ∧ s_10.2 < o_1_0) (fun s_10 => s_10.2 - (-1)) (by (try dsimp only); (repeat' apply And.intro) <;> first | with_reducible assumption | ((try clear hj_9); first | lia | grind [zu_at, zu_atL, zvn])) (by (try dsimp only); ((try clear hj_9); first | lia | grind [zu_at, zu_atL, zvn])) (fun s_10 back_10 Hback_10 hback_10 => ?_)
    obtain ⟨s_10_0, s_10_1⟩ := s_10
    try dsimp only at Hback_10 hback_10
    obtain ⟨Hback_10_0, Hback_10_1, Hback_10_2⟩ := Hback_10
    refine zw_if (fun c1 => ?_) (fun c1 => ?_)
    · refine zw_zb0 (sf_X12_goesWell s_9_0 (by first | with_reducible assumption | exact ⟨by with_reducible assumption, by with_reducible assumption⟩ | ((try clear hj_9); (try clear hback_10); first | lia | grind [zu_at, zu_atL, zvn]))) (fun o_12 ho_12 => ?_)
      obtain ⟨ho_12_0, ho_12_1, ho_12_2, ho_12_3, ho_12_4, ho_12_5⟩ := ho_12
      refine zw_if (fun c2 => ?_) (fun c2 => ?_)
      · refine zw_some ?_
        first | exact True.intro | ((try dsimp only); (repeat' apply And.intro) <;> first | with_reducible assumption | ((try clear hj_9); (try clear hback_10); first | lia | grind [zu_at, zu_atL, zvn]))
      refine zw_some ?_
      first | exact True.intro | ((try dsimp only); (repeat' apply And.intro) <;> first | with_reducible assumption | ((try clear hj_9); (try clear hback_10); first | lia | grind [zu_at, zu_atL, zvn]))
    refine zw_zb0 (sf_X12_goesWell s_9_0 (by first | with_reducible assumption | exact ⟨by with_reducible assumption, by with_reducible assumption⟩ | ((try clear hj_9); (try clear hback_10); first | lia | grind [zu_at, zu_atL, zvn]))) (fun o_17 ho_17 => ?_)
    obtain ⟨ho_17_0, ho_17_1, ho_17_2, ho_17_3, ho_17_4, ho_17_5⟩ := ho_17
    refine zw_if (fun c3 => ?_) (fun c3 => ?_)
    · refine zw_zb0 (sf_X12_goesWell s_9_0 (by first | with_reducible assumption | exact ⟨by with_reducible assumption, by with_reducible assumption⟩ | ((try clear hj_9); (try clear hback_10); first | lia | grind [zu_at, zu_atL, zvn]))) (fun o_22 ho_22 => ?_)
      obtain ⟨ho_22_0, ho_22_1, ho_22_2, ho_22_3, ho_22_4, ho_22_5⟩ := ho_22
      refine zw_if (fun c4 => ?_) (fun c4 => ?_)
      · refine zw_some ?_
        first | exact True.intro | ((try dsimp only); (repeat' apply And.intro) <;> first | with_reducible assumption | ((try clear hj_9); (try clear hback_10); first | lia | grind [zu_at, zu_atL, zvn]))
      refine zw_some ?_
      first | exact True.intro | ((try dsimp only); (repeat' apply And.intro) <;> first | with_reducible assumption | ((try clear hj_9); (try clear hback_10); first | lia | grind [zu_at, zu_atL, zvn]))
    refine zw_zg32 1200 (by decide) (by (try dsimp only); ((try clear hj_9); (try clear hback_10); first | lia | grind [zu_at, zu_atL, zvn])) ?_
    exact hback_10 _ (by (try dsimp only); (repeat' apply And.intro) <;> first | with_reducible assumption | ((try clear hj_9); (try clear hback_10); first | lia | grind [zu_at, zu_atL, zvn])) (by (try dsimp only); ((try clear hj_9); (try clear hback_10); first | lia | grind [zu_at, zu_atL, zvn])) (by (try dsimp only); ((try clear hj_9); (try clear hback_10); first | lia | grind [zu_at, zu_atL, zvn]))
  refine zw_if (fun c5 => ?_) (fun c5 => ?_)
  · exact hj_9 _ (by first | exact True.intro | ((try dsimp only); (repeat' apply And.intro) <;> first | with_reducible assumption | ((try clear hj_9); (try clear hback_10); first | lia | grind [zu_at, zu_atL, zvn])))
  refine zw_zb0 (sf_X12_own o_1_0 o_1_1 f2 f1 (by first | with_reducible assumption | exact ⟨by with_reducible assumption, by with_reducible assumption⟩ | ((try clear hj_9); (try clear hback_10); first | lia | grind [zu_at, zu_atL, zvn])) (by first | with_reducible assumption | exact ⟨by with_reducible assumption, by with_reducible assumption⟩ | ((try clear hj_9); (try clear hback_10); first | lia | grind [zu_at, zu_atL, zvn])) (by first | with_reducible assumption | exact ⟨by with_reducible assumption, by with_reducible assumption⟩ | ((try clear hj_9); (try clear hback_10); first | lia | grind [zu_at, zu_atL, zvn])) (by first | with_reducible assumption | exact ⟨by with_reducible assumption, by with_reducible assumption⟩ | ((try clear hj_9); (try clear hback_10); first | lia | grind [zu_at, zu_atL, zvn]))) (fun o_29 ho_29 => ?_)
  obtain ⟨ho_29_0, ho_29_1⟩ := ho_29
  refine zw_zj (fun _ => True) (fun s_33 Hj_33 => ?_) (fun j_33 hj_33 => ?_)
  · refine zw_zb0 (sf_X12_faults 1 o_1_1 o_1_2 o_1_3 (by first | with_reducible assumption | exact ⟨by with_reducible assumption, by with_reducible assumption⟩ | ((try clear hj_9); (try clear hback_10); (try clear hj_33); first | lia | grind [zu_at, zu_atL, zvn])) (by first | with_reducible assumption | exact ⟨by with_reducible assumption, by with_reducible assumption⟩ | ((try clear hj_9); (try clear hback_10); (try clear hj_33); first | lia | grind [zu_at, zu_atL, zvn]))) (fun o_34 ho_34 => ?_)
    obtain ⟨o_34_0, o_34_1⟩ := o_34
    try dsimp only at ho_34
    obtain ⟨ho_34_0, ho_34_1, ho_34_2, ho_34_3⟩ := ho_34
    exact hj_9 _ (by first | exact True.intro | ((try dsimp only); (repeat' apply And.intro) <;> first | with_reducible assumption | ((try clear hj_9); (try clear hback_10); (try clear hj_33); first | lia | grind [zu_at, zu_atL, zvn])))
  refine zw_if (fun c6 => ?_) (fun c6 => ?_)
  · refine zw_if (fun c7 => ?_) (fun c7 => ?_)
    · exact hj_9 _ (by first | exact True.intro | ((try dsimp only); (repeat' apply And.intro) <;> first | with_reducible assumption | ((try clear hj_9); (try clear hback_10); (try clear hj_33); first | lia | grind [zu_at, zu_atL, zvn])))
    exact hj_33 _ (by first | exact True.intro | ((try dsimp only); (repeat' apply And.intro) <;> first | with_reducible assumption | ((try clear hj_9); (try clear hback_10); (try clear hj_33); first | lia | grind [zu_at, zu_atL, zvn])))
  exact hj_33 _ (by first | exact True.intro | ((try dsimp only); (repeat' apply And.intro) <;> first | with_reducible assumption | ((try clear hj_9); (try clear hback_10); (try clear hj_33); first | lia | grind [zu_at, zu_atL, zvn])))
set_option maxHeartbeats 4000000 in
set_option maxRecDepth 100000 in
theorem sf_X12_digits (v0_5 : Int32) (v0_6 : Int32) (v0_7 : Int32) (v0_8 : Int32) (v0_9 : Int32) (f1 : Nat → Int32) (h_v0_5 : 0 ≤ v0_5 ∧ v0_5 ≤ 1200) (h_v0_6 : 0 ≤ v0_6 ∧ v0_6 ≤ 1200) (h_v0_7 : 0 ≤ v0_7 ∧ v0_7 ≤ 1200) (h_v0_8 : 0 ≤ v0_8 ∧ v0_8 ≤ 4) (h_f1 : (∀ i : Nat, 0 ≤ f1 i ∧ f1 i ≤ 255)) : zw (fn_X12_digits v0_5 v0_6 v0_7 v0_8 v0_9 f1) (fun r => 0 ≤ r.2.1 ∧ r.2.1 ≤ 1200 ∧ 0 ≤ r.2.2.1 ∧ r.2.2.1 ≤ 1200 ∧ 0 ≤ r.2.2.2.1 ∧ r.2.2.2.1 ≤ 4 ∧ v0_6 ≤ r.2.1 ∧ v0_8 ≤ r.2.2.2.1) := by
  unfold fn_X12_digits
  refine zw_zb0 (sf_X12_goesWell v0_8 (by first | with_reducible assumption | exact ⟨by with_reducible assumption, by with_reducible assumption⟩ | first | lia | grind [zu_at, zu_atL, zvn])) (fun o_1 ho_1 => ?_)
  obtain ⟨ho_1_0, ho_1_1, ho_1_2, ho_1_3, ho_1_4, ho_1_5⟩ := ho_1
  refine zw_if (fun c1 => ?_) (fun c1 => ?_)
  · refine zw_some ?_
    first | exact True.intro | ((try dsimp only); (repeat' apply And.intro) <;> first | with_reducible assumption | first | lia | grind [zu_at, zu_atL, zvn])
  refine zw_zb0 (sf_X12_here v0_5 v0_6 f1 (by first | with_reducible assumption | exact ⟨by with_reducible assumption, by with_reducible assumption⟩ | first | lia | grind [zu_at, zu_atL, zvn]) (by first | with_reducible assumption | exact ⟨by with_reducible assumption, by with_reducible assumption⟩ | first | lia | grind [zu_at, zu_atL, zvn]) (by first | with_reducible assumption | exact ⟨by with_reducible assumption, by with_reducible assumption⟩ | first | lia | grind [zu_at, zu_atL, zvn])) (fun o_6 ho_6 => ?_)
  obtain ⟨o_6_0, o_6_1⟩ := o_6
  try dsimp only at ho_6
  obtain ⟨ho_6_0, ho_6_1, ho_6_2, ho_6_3, ho_6_4, ho_6_5, ho_6_6⟩ := ho_6
  refine zw_zb0 (sf_X12_isDigit o_6_1 v0_5 f1 (by first | with_reducible assumption | exact ⟨by with_reducible assumption, by with_reducible assumption⟩ | first | lia | grind [zu_at, zu_atL, zvn]) (by first | with_reducible assumption | exact ⟨by with_reducible assumption, by with_reducible assumption⟩ | first | lia | grind [zu_at, zu_atL, zvn])) (fun o_10 ho_10 => ?_)
  obtain ⟨ho_10_0, ho_10_1, ho_10_2, ho_10_3, ho_10_4, ho_10_5⟩ := ho_10
  refine zw_if (fun c2 => ?_) (fun c2 => ?_)
  · refine zw_zb0 (sf_X12_faults 1 o_6_1 v0_8 v0_9 (by first | with_reducible assumption | exact ⟨by with_reducible assumption, by with_reducible assumption⟩ | first | lia | grind [zu_at, zu_atL, zvn]) (by first | with_reducible assumption | exact ⟨by with_reducible assumption, by with_reducible assumption⟩ | first | lia | grind [zu_at, zu_atL, zvn])) (fun o_15 ho_15 => ?_)
    obtain ⟨o_15_0, o_15_1⟩ := o_15
    try dsimp only at ho_15
    obtain ⟨ho_15_0, ho_15_1, ho_15_2, ho_15_3⟩ := ho_15
    refine zw_some ?_
    first | exact True.intro | ((try dsimp only); (repeat' apply And.intro) <;> first | with_reducible assumption | first | lia | grind [zu_at, zu_atL, zvn])
  refine zw_zb0 (sf_X12_isSmall (o_6_1 - 1) v0_5 f1 (by first | with_reducible assumption | exact ⟨by with_reducible assumption, by with_reducible assumption⟩ | first | lia | grind [zu_at, zu_atL, zvn]) (by first | with_reducible assumption | exact ⟨by with_reducible assumption, by with_reducible assumption⟩ | first | lia | grind [zu_at, zu_atL, zvn])) (fun o_19 ho_19 => ?_)
  obtain ⟨ho_19_0, ho_19_1, ho_19_2, ho_19_3, ho_19_4, ho_19_5⟩ := ho_19
  refine zw_if (fun c3 => ?_) (fun c3 => ?_)
  · refine zw_zb0 (sf_X12_isDigit (o_6_1 - 1) v0_5 f1 (by first | with_reducible assumption | exact ⟨by with_reducible assumption, by with_reducible assumption⟩ | first | lia | grind [zu_at, zu_atL, zvn]) (by first | with_reducible assumption | exact ⟨by with_reducible assumption, by with_reducible assumption⟩ | first | lia | grind [zu_at, zu_atL, zvn])) (fun o_28 ho_28 => ?_)
    obtain ⟨ho_28_0, ho_28_1, ho_28_2, ho_28_3, ho_28_4, ho_28_5⟩ := ho_28
    refine zw_if (fun c4 => ?_) (fun c4 => ?_)
    · refine zw_zl32 (fun s_33 => 0 ≤ s_33.2 ∧ s_33.2 ≤ 1200 ∧ s_33.2 ≤ v0_5 ∧ v0_6 ≤ s_33.2 ∧ o_6_1 ≤ s_33.2) (fun s_33 => 1200 - s_33.2) (by (try dsimp only); (repeat' apply And.intro) <;> first | with_reducible assumption | first | lia | grind [zu_at, zu_atL, zvn]) (by (try dsimp only); first | lia | grind [zu_at, zu_atL, zvn]) (fun s_33 back_33 Hback_33 hback_33 => ?_)
      obtain ⟨s_33_0, s_33_1⟩ := s_33
      try dsimp only at Hback_33 hback_33
      obtain ⟨Hback_33_0, Hback_33_1, Hback_33_2, Hback_33_3, Hback_33_4⟩ := Hback_33
      refine zw_zb0 (sf_X12_isDigit s_33_1 v0_5 f1 (by first | with_reducible assumption | exact ⟨by with_reducible assumption, by with_reducible assumption⟩ | ((try clear hback_33); first | lia | grind [zu_at, zu_atL, zvn])) (by first | with_reducible assumption | exact ⟨by with_reducible assumption, by with_reducible assumption⟩ | ((try clear hback_33); first | lia | grind [zu_at, zu_atL, zvn]))) (fun o_34 ho_34 => ?_)
      obtain ⟨ho_34_0, ho_34_1, ho_34_2, ho_34_3, ho_34_4, ho_34_5⟩ := ho_34
      refine zw_if (fun c5 => ?_) (fun c5 => ?_)
      · refine zw_if (fun c6 => ?_) (fun c6 => ?_)
        · refine zw_zb0 (sf_X12_goesWell v0_8 (by first | with_reducible assumption | exact ⟨by with_reducible assumption, by with_reducible assumption⟩ | ((try clear hback_33); first | lia | grind [zu_at, zu_atL, zvn]))) (fun o_40 ho_40 => ?_)
          obtain ⟨ho_40_0, ho_40_1, ho_40_2, ho_40_3, ho_40_4, ho_40_5⟩ := ho_40
          refine zw_if (fun c7 => ?_) (fun c7 => ?_)
          · refine zw_some ?_
            first | exact True.intro | ((try dsimp only); (repeat' apply And.intro) <;> first | with_reducible assumption | ((try clear hback_33); first | lia | grind [zu_at, zu_atL, zvn]))
          refine zw_some ?_
          first | exact True.intro | ((try dsimp only); (repeat' apply And.intro) <;> first | with_reducible assumption | ((try clear hback_33); first | lia | grind [zu_at, zu_atL, zvn]))
        refine zw_zb0 (sf_X12_faults 1 o_6_1 v0_8 v0_9 (by first | with_reducible assumption | exact ⟨by with_reducible assumption, by with_reducible assumption⟩ | ((try clear hback_33); first | lia | grind [zu_at, zu_atL, zvn])) (by first | with_reducible assumption | exact ⟨by with_reducible assumption, by with_reducible assumption⟩ | ((try clear hback_33); first | lia | grind [zu_at, zu_atL, zvn]))) (fun o_45 ho_45 => ?_)
        obtain ⟨o_45_0, o_45_1⟩ := o_45
        try dsimp only at ho_45
        obtain ⟨ho_45_0, ho_45_1, ho_45_2, ho_45_3⟩ := ho_45
        refine zw_zb0 (sf_X12_goesWell o_45_0 (by first | with_reducible assumption | exact ⟨by with_reducible assumption, by with_reducible assumption⟩ | ((try clear hback_33); first | lia | grind [zu_at, zu_atL, zvn]))) (fun o_49 ho_49 => ?_)
        obtain ⟨ho_49_0, ho_49_1, ho_49_2, ho_49_3, ho_49_4, ho_49_5⟩ := ho_49
        refine zw_if (fun c8 => ?_) (fun c8 => ?_)
        · refine zw_some ?_
          first | exact True.intro | ((try dsimp only); (repeat' apply And.intro) <;> first | with_reducible assumption | ((try clear hback_33); first | lia | grind [zu_at, zu_atL, zvn]))
        refine zw_some ?_
        first | exact True.intro | ((try dsimp only); (repeat' apply And.intro) <;> first | with_reducible assumption | ((try clear hback_33); first | lia | grind [zu_at, zu_atL, zvn]))
      refine zw_if (fun c9 => ?_) (fun c9 => ?_)
      · exact hback_33 _ (by (try dsimp only); (repeat' apply And.intro) <;> first | with_reducible assumption | ((try clear hback_33); first | lia | grind [zu_at, zu_atL, zvn])) (by (try dsimp only); ((try clear hback_33); first | lia | grind [zu_at, zu_atL, zvn])) (by (try dsimp only); ((try clear hback_33); first | lia | grind [zu_at, zu_atL, zvn]))
      refine zw_zb0 (sf_X12_byteAt s_33_1 v0_5 f1 (by first | with_reducible assumption | exact ⟨by with_reducible assumption, by with_reducible assumption⟩ | ((try clear hback_33); first | lia | grind [zu_at, zu_atL, zvn])) (by first | with_reducible assumption | exact ⟨by with_reducible assumption, by with_reducible assumption⟩ | ((try clear hback_33); first | lia | grind [zu_at, zu_atL, zvn]))) (fun o_55 ho_55 => ?_)
      obtain ⟨ho_55_0, ho_55_1, ho_55_2, ho_55_3⟩ := ho_55
      exact hback_33 _ (by (try dsimp only); (repeat' apply And.intro) <;> first | with_reducible assumption | ((try clear hback_33); first | lia | grind [zu_at, zu_atL, zvn])) (by (try dsimp only); ((try clear hback_33); first | lia | grind [zu_at, zu_atL, zvn])) (by (try dsimp only); ((try clear hback_33); first | lia | grind [zu_at, zu_atL, zvn]))
    refine zw_zb0 (sf_X12_faults 1 o_6_1 v0_8 v0_9 (by first | with_reducible assumption | exact ⟨by with_reducible assumption, by with_reducible assumption⟩ | ((try clear hback_33); first | lia | grind [zu_at, zu_atL, zvn])) (by first | with_reducible assumption | exact ⟨by with_reducible assumption, by with_reducible assumption⟩ | ((try clear hback_33); first | lia | grind [zu_at, zu_atL, zvn]))) (fun o_59 ho_59 => ?_)
    obtain ⟨o_59_0, o_59_1⟩ := o_59
    try dsimp only at ho_59
    obtain ⟨ho_59_0, ho_59_1, ho_59_2, ho_59_3⟩ := ho_59
    refine zw_some ?_
    first | exact True.intro | ((try dsimp only); (repeat' apply And.intro) <;> first | with_reducible assumption | ((try clear hback_33); first | lia | grind [zu_at, zu_atL, zvn]))
  refine zw_zb0 (sf_X12_faults 1 o_6_1 v0_8 v0_9 (by first | with_reducible assumption | exact ⟨by with_reducible assumption, by with_reducible assumption⟩ | ((try clear hback_33); first | lia | grind [zu_at, zu_atL, zvn])) (by first | with_reducible assumption | exact ⟨by with_reducible assumption, by with_reducible assumption⟩ | ((try clear hback_33); first | lia | grind [zu_at, zu_atL, zvn]))) (fun o_24 ho_24 => ?_)
  obtain ⟨o_24_0, o_24_1⟩ := o_24
  try dsimp only at ho_24
  obtain ⟨ho_24_0, ho_24_1, ho_24_2, ho_24_3⟩ := ho_24
  refine zw_some ?_
  first | exact True.intro | ((try dsimp only); (repeat' apply And.intro) <;> first | with_reducible assumption | ((try clear hback_33); first | lia | grind [zu_at, zu_atL, zvn]))
set_option maxHeartbeats 4000000 in
set_option maxRecDepth 100000 in
theorem sf_X12_number (j1 : Int64) (j2 : Int64) (v0_5 : Int32) (v0_6 : Int32) (v0_7 : Int32) (v0_8 : Int32) (v0_9 : Int32) (f1 : Nat → Int32) (h_v0_5 : 0 ≤ v0_5 ∧ v0_5 ≤ 1200) (h_v0_6 : 0 ≤ v0_6 ∧ v0_6 ≤ 1200) (h_v0_7 : 0 ≤ v0_7 ∧ v0_7 ≤ 1200) (h_v0_8 : 0 ≤ v0_8 ∧ v0_8 ≤ 4) (h_f1 : (∀ i : Nat, 0 ≤ f1 i ∧ f1 i ≤ 255)) : zw (fn_X12_number j1 j2 v0_5 v0_6 v0_7 v0_8 v0_9 f1) (fun r => 0 ≤ r.2.1 ∧ r.2.1 ≤ 1200 ∧ 0 ≤ r.2.2.1 ∧ r.2.2.1 ≤ 1200 ∧ 0 ≤ r.2.2.2.1 ∧ r.2.2.2.1 ≤ 4 ∧ v0_6 ≤ r.2.1 ∧ v0_8 ≤ r.2.2.2.1 ∧ (r.2.2.2.1 = 0 → j1 ≤ r.1 ∧ r.1 ≤ j2)) := by
  unfold fn_X12_number
  refine zw_zb0 (sf_X12_digits v0_5 v0_6 v0_7 v0_8 v0_9 f1 (by first | with_reducible assumption | exact ⟨by with_reducible assumption, by with_reducible assumption⟩ | first | lia | grind [zu_at, zu_atL, zvn]) (by first | with_reducible assumption | exact ⟨by with_reducible assumption, by with_reducible assumption⟩ | first | lia | grind [zu_at, zu_atL, zvn]) (by first | with_reducible assumption | exact ⟨by with_reducible assumption, by with_reducible assumption⟩ | first | lia | grind [zu_at, zu_atL, zvn]) (by first | with_reducible assumption | exact ⟨by with_reducible assumption, by with_reducible assumption⟩ | first | lia | grind [zu_at, zu_atL, zvn]) (by first | with_reducible assumption | exact ⟨by with_reducible assumption, by with_reducible assumption⟩ | first | lia | grind [zu_at, zu_atL, zvn])) (fun o_1 ho_1 => ?_)
  obtain ⟨o_1_0, o_1_1, o_1_2, o_1_3, o_1_4⟩ := o_1
  try dsimp only at ho_1
  obtain ⟨ho_1_0, ho_1_1, ho_1_2, ho_1_3, ho_1_4, ho_1_5, ho_1_6, ho_1_7⟩ := ho_1
  refine zw_zb0 (sf_X12_goesWell o_1_3 (by first | with_reducible assumption | exact ⟨by with_reducible assumption, by with_reducible assumption⟩ | first | lia | grind [zu_at, zu_atL, zvn])) (fun o_5 ho_5 => ?_)
  obtain ⟨ho_5_0, ho_5_1, ho_5_2, ho_5_3, ho_5_4, ho_5_5⟩ := ho_5
  refine zw_if (fun c1 => ?_) (fun c1 => ?_)
  · refine zw_zb0 (sf_X12_goesWell o_1_3 (by first | with_reducible assumption | exact ⟨by with_reducible assumption, by with_reducible assumption⟩ | first | lia | grind [zu_at, zu_atL, zvn])) (fun o_10 ho_10 => ?_)
    obtain ⟨ho_10_0, ho_10_1, ho_10_2, ho_10_3, ho_10_4, ho_10_5⟩ := ho_10
    refine zw_if (fun c2 => ?_) (fun c2 => ?_)
    · refine zw_some ?_
      first | exact True.intro | ((try dsimp only); (repeat' apply And.intro) <;> first | with_reducible assumption | first | lia | grind [zu_at, zu_atL, zvn])
    refine zw_some ?_
    first | exact True.intro | ((try dsimp only); (repeat' apply And.intro) <;> first | with_reducible assumption | first | lia | grind [zu_at, zu_atL, zvn])
  refine zw_zb0 (sf_X12_isIn o_1_0 j1 j2) (fun o_15 ho_15 => ?_)
  obtain ⟨ho_15_0, ho_15_1, ho_15_2, ho_15_3, ho_15_4⟩ := ho_15
  refine zw_if (fun c3 => ?_) (fun c3 => ?_)
  · refine zw_zb0 (sf_X12_faults 2 o_1_2 o_1_3 o_1_4 (by first | with_reducible assumption | exact ⟨by with_reducible assumption, by with_reducible assumption⟩ | first | lia | grind [zu_at, zu_atL, zvn]) (by first | with_reducible assumption | exact ⟨by with_reducible assumption, by with_reducible assumption⟩ | first | lia | grind [zu_at, zu_atL, zvn])) (fun o_25 ho_25 => ?_)
    obtain ⟨o_25_0, o_25_1⟩ := o_25
    try dsimp only at ho_25
    obtain ⟨ho_25_0, ho_25_1, ho_25_2, ho_25_3⟩ := ho_25
    refine zw_zb0 (sf_X12_goesWell o_25_0 (by first | with_reducible assumption | exact ⟨by with_reducible assumption, by with_reducible assumption⟩ | first | lia | grind [zu_at, zu_atL, zvn])) (fun o_29 ho_29 => ?_)
    obtain ⟨ho_29_0, ho_29_1, ho_29_2, ho_29_3, ho_29_4, ho_29_5⟩ := ho_29
    refine zw_if (fun c4 => ?_) (fun c4 => ?_)
    · refine zw_some ?_
      first | exact True.intro | ((try dsimp only); (repeat' apply And.intro) <;> first | with_reducible assumption | first | lia | grind [zu_at, zu_atL, zvn])
    refine zw_some ?_
    first | exact True.intro | ((try dsimp only); (repeat' apply And.intro) <;> first | with_reducible assumption | first | lia | grind [zu_at, zu_atL, zvn])
  refine zw_zb0 (sf_X12_goesWell o_1_3 (by first | with_reducible assumption | exact ⟨by with_reducible assumption, by with_reducible assumption⟩ | first | lia | grind [zu_at, zu_atL, zvn])) (fun o_20 ho_20 => ?_)
  obtain ⟨ho_20_0, ho_20_1, ho_20_2, ho_20_3, ho_20_4, ho_20_5⟩ := ho_20
  refine zw_if (fun c5 => ?_) (fun c5 => ?_)
  · refine zw_some ?_
    first | exact True.intro | ((try dsimp only); (repeat' apply And.intro) <;> first | with_reducible assumption | first | lia | grind [zu_at, zu_atL, zvn])
  refine zw_some ?_
  first | exact True.intro | ((try dsimp only); (repeat' apply And.intro) <;> first | with_reducible assumption | first | lia | grind [zu_at, zu_atL, zvn])
set_option maxHeartbeats 4000000 in
set_option maxRecDepth 100000 in
theorem sf_X12_signed (j1 : Int64) (j2 : Int64) (v0_5 : Int32) (v0_6 : Int32) (v0_7 : Int32) (v0_8 : Int32) (v0_9 : Int32) (f1 : Nat → Int32) (h_v0_5 : 0 ≤ v0_5 ∧ v0_5 ≤ 1200) (h_v0_6 : 0 ≤ v0_6 ∧ v0_6 ≤ 1200) (h_v0_7 : 0 ≤ v0_7 ∧ v0_7 ≤ 1200) (h_v0_8 : 0 ≤ v0_8 ∧ v0_8 ≤ 4) (h_f1 : (∀ i : Nat, 0 ≤ f1 i ∧ f1 i ≤ 255)) : zw (fn_X12_signed j1 j2 v0_5 v0_6 v0_7 v0_8 v0_9 f1) (fun r => 0 ≤ r.2.1 ∧ r.2.1 ≤ 1200 ∧ 0 ≤ r.2.2.1 ∧ r.2.2.1 ≤ 1200 ∧ 0 ≤ r.2.2.2.1 ∧ r.2.2.2.1 ≤ 4 ∧ v0_6 ≤ r.2.1 ∧ v0_8 ≤ r.2.2.2.1) := by
  unfold fn_X12_signed
  refine zw_zb0 (sf_X12_goesWell v0_8 (by first | with_reducible assumption | exact ⟨by with_reducible assumption, by with_reducible assumption⟩ | first | lia | grind [zu_at, zu_atL, zvn])) (fun o_1 ho_1 => ?_)
  obtain ⟨ho_1_0, ho_1_1, ho_1_2, ho_1_3, ho_1_4, ho_1_5⟩ := ho_1
  refine zw_if (fun c1 => ?_) (fun c1 => ?_)
  · refine zw_some ?_
    first | exact True.intro | ((try dsimp only); (repeat' apply And.intro) <;> first | with_reducible assumption | first | lia | grind [zu_at, zu_atL, zvn])
  refine zw_zb0 (sf_X12_here v0_5 v0_6 f1 (by first | with_reducible assumption | exact ⟨by with_reducible assumption, by with_reducible assumption⟩ | first | lia | grind [zu_at, zu_atL, zvn]) (by first | with_reducible assumption | exact ⟨by with_reducible assumption, by with_reducible assumption⟩ | first | lia | grind [zu_at, zu_atL, zvn]) (by first | with_reducible assumption | exact ⟨by with_reducible assumption, by with_reducible assumption⟩ | first | lia | grind [zu_at, zu_atL, zvn])) (fun o_6 ho_6 => ?_)
  obtain ⟨o_6_0, o_6_1⟩ := o_6
  try dsimp only at ho_6
  obtain ⟨ho_6_0, ho_6_1, ho_6_2, ho_6_3, ho_6_4, ho_6_5, ho_6_6⟩ := ho_6
  refine zw_zj (fun s_10 => (s_10 = 0 ∨ o_6_1 < v0_5) ∧ 0 ≤ s_10 ∧ s_10 ≤ 1 ∧ s_10 ≤ v0_5 ∧ s_10 ≤ o_6_0 + 1) (fun s_10 Hj_10 => ?_) (fun j_10 hj_10 => ?_)
  · obtain ⟨Hj_10_0, Hj_10_1, Hj_10_2, Hj_10_3, Hj_10_4⟩ := Hj_10
    refine zw_zj (fun s_11 => 0 ≤ s_11 ∧ s_11 ≤ 1200 ∧ s_10 ≤ s_11 ∧ v0_6 ≤ s_11 ∧ o_6_1 ≤ s_11 ∧ s_11 ≤ o_6_1 + 1) (fun s_11 Hj_11 => ?_) (fun j_11 hj_11 => ?_)
    · obtain ⟨Hj_11_0, Hj_11_1, Hj_11_2, Hj_11_3, Hj_11_4, Hj_11_5⟩ := Hj_11
      refine zw_zb0 (sf_X12_digits v0_5 s_11 v0_7 v0_8 v0_9 f1 (by first | with_reducible assumption | exact ⟨by with_reducible assumption, by with_reducible assumption⟩ | ((try clear hj_10); (try clear hj_11); first | lia | grind [zu_at, zu_atL, zvn])) (by first | with_reducible assumption | exact ⟨by with_reducible assumption, by with_reducible assumption⟩ | ((try clear hj_10); (try clear hj_11); first | lia | grind [zu_at, zu_atL, zvn])) (by first | with_reducible assumption | exact ⟨by with_reducible assumption, by with_reducible assumption⟩ | ((try clear hj_10); (try clear hj_11); first | lia | grind [zu_at, zu_atL, zvn])) (by first | with_reducible assumption | exact ⟨by with_reducible assumption, by with_reducible assumption⟩ | ((try clear hj_10); (try clear hj_11); first | lia | grind [zu_at, zu_atL, zvn])) (by first | with_reducible assumption | exact ⟨by with_reducible assumption, by with_reducible assumption⟩ | ((try clear hj_10); (try clear hj_11); first | lia | grind [zu_at, zu_atL, zvn]))) (fun o_12 ho_12 => ?_)
      obtain ⟨o_12_0, o_12_1, o_12_2, o_12_3, o_12_4⟩ := o_12
      try dsimp only at ho_12
      obtain ⟨ho_12_0, ho_12_1, ho_12_2, ho_12_3, ho_12_4, ho_12_5, ho_12_6, ho_12_7⟩ := ho_12
      refine zw_zj (fun s_16 => True) (fun s_16 Hj_16 => ?_) (fun j_16 hj_16 => ?_)
      · refine zw_zb0 (sf_X12_goesWell o_12_3 (by first | with_reducible assumption | exact ⟨by with_reducible assumption, by with_reducible assumption⟩ | ((try clear hj_10); (try clear hj_11); (try clear hj_16); first | lia | grind [zu_at, zu_atL, zvn]))) (fun o_17 ho_17 => ?_)
        obtain ⟨ho_17_0, ho_17_1, ho_17_2, ho_17_3, ho_17_4, ho_17_5⟩ := ho_17
        refine zw_zj (fun s_21 => 0 ≤ s_21.1 ∧ s_21.1 ≤ 4 ∧ o_12_3 ≤ s_21.1) (fun s_21 Hj_21 => ?_) (fun j_21 hj_21 => ?_)
        · obtain ⟨s_21_0, s_21_1⟩ := s_21
          try dsimp only at Hj_21
          obtain ⟨Hj_21_0, Hj_21_1, Hj_21_2⟩ := Hj_21
          refine zw_zb0 (sf_X12_goesWell s_21_0 (by first | with_reducible assumption | exact ⟨by with_reducible assumption, by with_reducible assumption⟩ | ((try clear hj_10); (try clear hj_11); (try clear hj_16); (try clear hj_21); first | lia | grind [zu_at, zu_atL, zvn]))) (fun o_22 ho_22 => ?_)
          obtain ⟨ho_22_0, ho_22_1, ho_22_2, ho_22_3, ho_22_4, ho_22_5⟩ := ho_22
          refine zw_if (fun c2 => ?_) (fun c2 => ?_)
          · refine zw_some ?_
            first | exact True.intro | ((try dsimp only); (repeat' apply And.intro) <;> first | with_reducible assumption | ((try clear hj_10); (try clear hj_11); (try clear hj_16); (try clear hj_21); first | lia | grind [zu_at, zu_atL, zvn]))
          refine zw_some ?_
          first | exact True.intro | ((try dsimp only); (repeat' apply And.intro) <;> first | with_reducible assumption | ((try clear hj_10); (try clear hj_11); (try clear hj_16); (try clear hj_21); first | lia | grind [zu_at, zu_atL, zvn]))
        refine zw_if (fun c3 => ?_) (fun c3 => ?_)
        · exact hj_21 _ (by first | exact True.intro | ((try dsimp only); (repeat' apply And.intro) <;> first | with_reducible assumption | ((try clear hj_10); (try clear hj_11); (try clear hj_16); (try clear hj_21); first | lia | grind [zu_at, zu_atL, zvn])))
        refine zw_zb0 (sf_X12_isIn s_16 j1 j2) (fun o_28 ho_28 => ?_)
        obtain ⟨ho_28_0, ho_28_1, ho_28_2, ho_28_3, ho_28_4⟩ := ho_28
        refine zw_if (fun c4 => ?_) (fun c4 => ?_)
        · refine zw_zb0 (sf_X12_faults 2 o_6_1 o_12_3 o_12_4 (by first | with_reducible assumption | exact ⟨by with_reducible assumption, by with_reducible assumption⟩ | ((try clear hj_10); (try clear hj_11); (try clear hj_16); (try clear hj_21); first | lia | grind [zu_at, zu_atL, zvn])) (by first | with_reducible assumption | exact ⟨by with_reducible assumption, by with_reducible assumption⟩ | ((try clear hj_10); (try clear hj_11); (try clear hj_16); (try clear hj_21); first | lia | grind [zu_at, zu_atL, zvn]))) (fun o_33 ho_33 => ?_)
          obtain ⟨o_33_0, o_33_1⟩ := o_33
          try dsimp only at ho_33
          obtain ⟨ho_33_0, ho_33_1, ho_33_2, ho_33_3⟩ := ho_33
          exact hj_21 _ (by first | exact True.intro | ((try dsimp only); (repeat' apply And.intro) <;> first | with_reducible assumption | ((try clear hj_10); (try clear hj_11); (try clear hj_16); (try clear hj_21); first | lia | grind [zu_at, zu_atL, zvn])))
        exact hj_21 _ (by first | exact True.intro | ((try dsimp only); (repeat' apply And.intro) <;> first | with_reducible assumption | ((try clear hj_10); (try clear hj_11); (try clear hj_16); (try clear hj_21); first | lia | grind [zu_at, zu_atL, zvn])))
      refine zw_if (fun c5 => ?_) (fun c5 => ?_)
      · exact hj_16 _ (by first | exact True.intro | ((try dsimp only); (repeat' apply And.intro) <;> first | with_reducible assumption | ((try clear hj_10); (try clear hj_11); (try clear hj_16); (try clear hj_21); first | lia | grind [zu_at, zu_atL, zvn])))
      exact hj_16 _ (by first | exact True.intro | ((try dsimp only); (repeat' apply And.intro) <;> first | with_reducible assumption | ((try clear hj_10); (try clear hj_11); (try clear hj_16); (try clear hj_21); first | lia | grind [zu_at, zu_atL, zvn])))
    refine zw_if (fun c6 => ?_) (fun c6 => ?_)
    · exact hj_11 _ (by first | exact True.intro | ((try dsimp only); (repeat' apply And.intro) <;> first | with_reducible assumption | ((try clear hj_10); (try clear hj_11); (try clear hj_16); (try clear hj_21); first | lia | grind [zu_at, zu_atL, zvn])))
    exact hj_11 _ (by first | exact True.intro | ((try dsimp only); (repeat' apply And.intro) <;> first | with_reducible assumption | ((try clear hj_10); (try clear hj_11); (try clear hj_16); (try clear hj_21); first | lia | grind [zu_at, zu_atL, zvn])))
  refine zw_if (fun c7 => ?_) (fun c7 => ?_)
  · exact hj_10 _ (by first | exact True.intro | ((try dsimp only); (repeat' apply And.intro) <;> first | with_reducible assumption | ((try clear hj_10); (try clear hj_11); (try clear hj_16); (try clear hj_21); first | lia | grind [zu_at, zu_atL, zvn])))
  exact hj_10 _ (by first | exact True.intro | ((try dsimp only); (repeat' apply And.intro) <;> first | with_reducible assumption | ((try clear hj_10); (try clear hj_11); (try clear hj_16); (try clear hj_21); first | lia | grind [zu_at, zu_atL, zvn])))
set_option maxHeartbeats 4000000 in
set_option maxRecDepth 100000 in
theorem sf_X12_f (p1 : Int32) (v0_11 : Int32) (h_p1 : 0 ≤ p1 ∧ p1 ≤ 4) (h_v0_11 : 1 ≤ v0_11 ∧ v0_11 ≤ 1) : zw (fn_X12_f p1 v0_11) (fun r => 4 ≤ r ∧ r ≤ 8 ∧ p1 + 4 ≤ r ∧ r ≤ p1 + 4) := by
  unfold fn_X12_f
  refine zw_some ?_
  first | exact True.intro | ((try dsimp only); (repeat' apply And.intro) <;> first | with_reducible assumption | first | lia | grind [zu_at, zu_atL, zvn])
set_option maxHeartbeats 4000000 in
set_option maxRecDepth 100000 in
theorem sf_X12_n (p1 : Int32) (v0_11 : Int32) (h_p1 : 0 ≤ p1 ∧ p1 ≤ 14) (h_v0_11 : 1 ≤ v0_11 ∧ v0_11 ≤ 1) : zw (fn_X12_n p1 v0_11) (fun r => 14 ≤ r ∧ r ≤ 28 ∧ p1 + 14 ≤ r ∧ r ≤ p1 + 14) := by
  unfold fn_X12_n
  refine zw_some ?_
  first | exact True.intro | ((try dsimp only); (repeat' apply And.intro) <;> first | with_reducible assumption | first | lia | grind [zu_at, zu_atL, zvn])
set_option maxHeartbeats 4000000 in
set_option maxRecDepth 100000 in
theorem sf_X12_formatNamed (p1 : Int32) (v0_11 : Int32) (f1 : Nat → Int32) (f2 : Nat → Int32) (h_v0_11 : 1 ≤ v0_11 ∧ v0_11 ≤ 1) (h_f1 : (∀ i : Nat, 0 ≤ f1 i ∧ f1 i ≤ 4)) : zw (fn_X12_formatNamed p1 v0_11 f1 f2) (fun r => (-1) ≤ r ∧ r ≤ 3 ∧ r < (f1 v0_11.toNatClampNeg) ∧ (r = (-1) → r + 2 ≤ v0_11) ∧ (¬ r = (-1) → 0 ≤ r)) := by
  unfold fn_X12_formatNamed
  refine zw_zl32 (fun s_1 => 0 ≤ s_1 ∧ s_1 ≤ 4) (fun s_1 => 4 - s_1) (by (try dsimp only); (repeat' apply And.intro) <;> first | with_reducible assumption | first | lia | grind [zu_at, zu_atL, zvn]) (by (try dsimp only); first | lia | grind [zu_at, zu_atL, zvn]) (fun s_1 back_1 Hback_1 hback_1 => ?_)
  obtain ⟨Hback_1_0, Hback_1_1⟩ := Hback_1
  refine zw_zg32 2 (by decide) (by (try dsimp only); ((try clear hback_1); first | lia | grind [zu_at, zu_atL, zvn])) ?_
  refine zw_if (fun c1 => ?_) (fun c1 => ?_)
  · refine zw_some ?_
    first | exact True.intro | ((try dsimp only); (repeat' apply And.intro) <;> first | with_reducible assumption | ((try clear hback_1); first | lia | grind [zu_at, zu_atL, zvn]))
  refine zw_zb0 (sf_X12_f s_1 v0_11 (by first | with_reducible assumption | exact ⟨by with_reducible assumption, by with_reducible assumption⟩ | ((try clear hback_1); first | lia | grind [zu_at, zu_atL, zvn])) (by first | with_reducible assumption | exact ⟨by with_reducible assumption, by with_reducible assumption⟩ | ((try clear hback_1); first | lia | grind [zu_at, zu_atL, zvn]))) (fun o_4 ho_4 => ?_)
  obtain ⟨ho_4_0, ho_4_1, ho_4_2, ho_4_3⟩ := ho_4
  refine zw_zg32 8 (by decide) (by (try dsimp only); ((try clear hback_1); first | lia | grind [zu_at, zu_atL, zvn])) ?_
  refine zw_if (fun c2 => ?_) (fun c2 => ?_)
  · refine zw_some ?_
    first | exact True.intro | ((try dsimp only); (repeat' apply And.intro) <;> first | with_reducible assumption | ((try clear hback_1); first | lia | grind [zu_at, zu_atL, zvn]))
  exact hback_1 _ (by (try dsimp only); (repeat' apply And.intro) <;> first | with_reducible assumption | ((try clear hback_1); first | lia | grind [zu_at, zu_atL, zvn])) (by (try dsimp only); ((try clear hback_1); first | lia | grind [zu_at, zu_atL, zvn])) (by (try dsimp only); ((try clear hback_1); first | lia | grind [zu_at, zu_atL, zvn]))
set_option maxHeartbeats 4000000 in
set_option maxRecDepth 100000 in
theorem sf_X12_numberNamed (p1 : Int32) (v0_11 : Int32) (f1 : Nat → Int32) (f2 : Nat → Int32) (h_v0_11 : 1 ≤ v0_11 ∧ v0_11 ≤ 1) (h_f1 : (∀ i : Nat, 0 ≤ f1 i ∧ f1 i ≤ 14)) : zw (fn_X12_numberNamed p1 v0_11 f1 f2) (fun r => (-1) ≤ r ∧ r ≤ 13 ∧ r < (f1 v0_11.toNatClampNeg) ∧ (r = (-1) → r + 2 ≤ v0_11) ∧ (¬ r = (-1) → 0 ≤ r)) := by
  unfold fn_X12_numberNamed
  refine zw_zl32 (fun s_1 => 0 ≤ s_1 ∧ s_1 ≤ 14) (fun s_1 => 14 - s_1) (by (try dsimp only); (repeat' apply And.intro) <;> first | with_reducible assumption | first | lia | grind [zu_at, zu_atL, zvn]) (by (try dsimp only); first | lia | grind [zu_at, zu_atL, zvn]) (fun s_1 back_1 Hback_1 hback_1 => ?_)
  obtain ⟨Hback_1_0, Hback_1_1⟩ := Hback_1
  refine zw_zg32 2 (by decide) (by (try dsimp only); ((try clear hback_1); first | lia | grind [zu_at, zu_atL, zvn])) ?_
  refine zw_if (fun c1 => ?_) (fun c1 => ?_)
  · refine zw_some ?_
    first | exact True.intro | ((try dsimp only); (repeat' apply And.intro) <;> first | with_reducible assumption | ((try clear hback_1); first | lia | grind [zu_at, zu_atL, zvn]))
  refine zw_zb0 (sf_X12_n s_1 v0_11 (by first | with_reducible assumption | exact ⟨by with_reducible assumption, by with_reducible assumption⟩ | ((try clear hback_1); first | lia | grind [zu_at, zu_atL, zvn])) (by first | with_reducible assumption | exact ⟨by with_reducible assumption, by with_reducible assumption⟩ | ((try clear hback_1); first | lia | grind [zu_at, zu_atL, zvn]))) (fun o_4 ho_4 => ?_)
  obtain ⟨ho_4_0, ho_4_1, ho_4_2, ho_4_3⟩ := ho_4
  refine zw_zg32 28 (by decide) (by (try dsimp only); ((try clear hback_1); first | lia | grind [zu_at, zu_atL, zvn])) ?_
  refine zw_if (fun c2 => ?_) (fun c2 => ?_)
  · refine zw_some ?_
    first | exact True.intro | ((try dsimp only); (repeat' apply And.intro) <;> first | with_reducible assumption | ((try clear hback_1); first | lia | grind [zu_at, zu_atL, zvn]))
  exact hback_1 _ (by (try dsimp only); (repeat' apply And.intro) <;> first | with_reducible assumption | ((try clear hback_1); first | lia | grind [zu_at, zu_atL, zvn])) (by (try dsimp only); ((try clear hback_1); first | lia | grind [zu_at, zu_atL, zvn])) (by (try dsimp only); ((try clear hback_1); first | lia | grind [zu_at, zu_atL, zvn]))
set_option maxHeartbeats 4000000 in
set_option maxRecDepth 100000 in
theorem sf_X12_newName (v0_5 : Int32) (v0_6 : Int32) (v0_7 : Int32) (v0_8 : Int32) (v0_9 : Int32) (v0_11 : Int32) (f1 : Nat → Int32) (f2 : Nat → Int32) (f3 : Nat → Int32) (f4 : Nat → Int32) (f5 : Nat → Int32) (f6 : Nat → Int32) (h_v0_5 : 0 ≤ v0_5 ∧ v0_5 ≤ 1200) (h_v0_6 : 0 ≤ v0_6 ∧ v0_6 ≤ 1200) (h_v0_7 : 0 ≤ v0_7 ∧ v0_7 ≤ 1200) (h_v0_8 : 0 ≤ v0_8 ∧ v0_8 ≤ 4) (h_v0_11 : 1 ≤ v0_11 ∧ v0_11 ≤ 1) (h_f1 : (∀ i : Nat, 0 ≤ f1 i ∧ f1 i ≤ 255)) (h_f3 : (∀ i : Nat, 0 ≤ f3 i ∧ f3 i ≤ 4)) (h_f5 : (∀ i : Nat, 0 ≤ f5 i ∧ f5 i ≤ 14)) (hx_0 : (∀ k : Nat, k < 71 → f2 k = zTab k)) : zw (fn_X12_newName v0_5 v0_6 v0_7 v0_8 v0_9 v0_11 f1 f2 f3 f4 f5 f6) (fun r => 0 ≤ r.2.1 ∧ r.2.1 ≤ 1200 ∧ 0 ≤ r.2.2.1 ∧ r.2.2.1 ≤ 1200 ∧ 0 ≤ r.2.2.2.1 ∧ r.2.2.2.1 ≤ 4 ∧ v0_6 ≤ r.2.1 ∧ v0_8 ≤ r.2.2.2.1) := by
  unfold fn_X12_newName
  refine zw_zb0 (sf_X12_name v0_5 v0_6 v0_7 v0_8 v0_9 f1 f2 (by first | with_reducible assumption | exact ⟨by with_reducible assumption, by with_reducible assumption⟩ | first | lia | grind [zu_at, zu_atL, zvn]) (by first | with_reducible assumption | exact ⟨by with_reducible assumption, by with_reducible assumption⟩ | first | lia | grind [zu_at, zu_atL, zvn]) (by first | with_reducible assumption | exact ⟨by with_reducible assumption, by with_reducible assumption⟩ | first | lia | grind [zu_at, zu_atL, zvn]) (by first | with_reducible assumption | exact ⟨by with_reducible assumption, by with_reducible assumption⟩ | first | lia | grind [zu_at, zu_atL, zvn]) (by first | with_reducible assumption | exact ⟨by with_reducible assumption, by with_reducible assumption⟩ | first | lia | grind [zu_at, zu_atL, zvn]) (by first | with_reducible assumption | exact ⟨by with_reducible assumption, by with_reducible assumption⟩ | first | lia | grind [zu_at, zu_atL, zvn])) (fun o_1 ho_1 => ?_)
  obtain ⟨o_1_0, o_1_1, o_1_2, o_1_3, o_1_4⟩ := o_1
  try dsimp only at ho_1
  obtain ⟨ho_1_0, ho_1_1, ho_1_2, ho_1_3, ho_1_4, ho_1_5, ho_1_6, ho_1_7⟩ := ho_1
  refine zw_zb0 (sf_X12_goesWell o_1_3 (by first | with_reducible assumption | exact ⟨by with_reducible assumption, by with_reducible assumption⟩ | first | lia | grind [zu_at, zu_atL, zvn])) (fun o_5 ho_5 => ?_)
  obtain ⟨ho_5_0, ho_5_1, ho_5_2, ho_5_3, ho_5_4, ho_5_5⟩ := ho_5
  refine zw_if (fun c1 => ?_) (fun c1 => ?_)
  · refine zw_some ?_
    first | exact True.intro | ((try dsimp only); (repeat' apply And.intro) <;> first | with_reducible assumption | first | lia | grind [zu_at, zu_atL, zvn])
  refine zw_zb0 (sf_X12_formatNamed o_1_0 v0_11 f3 f4 (by first | with_reducible assumption | exact ⟨by with_reducible assumption, by with_reducible assumption⟩ | first | lia | grind [zu_at, zu_atL, zvn]) (by first | with_reducible assumption | exact ⟨by with_reducible assumption, by with_reducible assumption⟩ | first | lia | grind [zu_at, zu_atL, zvn])) (fun o_10 ho_10 => ?_)
  obtain ⟨ho_10_0, ho_10_1, ho_10_2, ho_10_3, ho_10_4⟩ := ho_10
  refine zw_if (fun c2 => ?_) (fun c2 => ?_)
  · refine zw_zb0 (sf_X12_numberNamed o_1_0 v0_11 f5 f6 (by first | with_reducible assumption | exact ⟨by with_reducible assumption, by with_reducible assumption⟩ | first | lia | grind [zu_at, zu_atL, zvn]) (by first | with_reducible assumption | exact ⟨by with_reducible assumption, by with_reducible assumption⟩ | first | lia | grind [zu_at, zu_atL, zvn])) (fun o_19 ho_19 => ?_)
    obtain ⟨ho_19_0, ho_19_1, ho_19_2, ho_19_3, ho_19_4⟩ := ho_19
    refine zw_if (fun c3 => ?_) (fun c3 => ?_)
    · refine zw_some ?_
      first | exact True.intro | ((try dsimp only); (repeat' apply And.intro) <;> first | with_reducible assumption | first | lia | grind [zu_at, zu_atL, zvn])
    refine zw_zb0 (sf_X12_faults 3 o_1_2 o_1_3 o_1_4 (by first | with_reducible assumption | exact ⟨by with_reducible assumption, by with_reducible assumption⟩ | first | lia | grind [zu_at, zu_atL, zvn]) (by first | with_reducible assumption | exact ⟨by with_reducible assumption, by with_reducible assumption⟩ | first | lia | grind [zu_at, zu_atL, zvn])) (fun o_24 ho_24 => ?_)
    obtain ⟨o_24_0, o_24_1⟩ := o_24
    try dsimp only at ho_24
    obtain ⟨ho_24_0, ho_24_1, ho_24_2, ho_24_3⟩ := ho_24
    refine zw_some ?_
    first | exact True.intro | ((try dsimp only); (repeat' apply And.intro) <;> first | with_reducible assumption | first | lia | grind [zu_at, zu_atL, zvn])
  refine zw_zb0 (sf_X12_faults 3 o_1_2 o_1_3 o_1_4 (by first | with_reducible assumption | exact ⟨by with_reducible assumption, by with_reducible assumption⟩ | first | lia | grind [zu_at, zu_atL, zvn]) (by first | with_reducible assumption | exact ⟨by with_reducible assumption, by with_reducible assumption⟩ | first | lia | grind [zu_at, zu_atL, zvn])) (fun o_15 ho_15 => ?_)
  obtain ⟨o_15_0, o_15_1⟩ := o_15
  try dsimp only at ho_15
  obtain ⟨ho_15_0, ho_15_1, ho_15_2, ho_15_3⟩ := ho_15
  refine zw_some ?_
  first | exact True.intro | ((try dsimp only); (repeat' apply And.intro) <;> first | with_reducible assumption | first | lia | grind [zu_at, zu_atL, zvn])
set_option maxHeartbeats 4000000 in
set_option maxRecDepth 100000 in
theorem sf_X12_toldNumber (v0_5 : Int32) (v0_6 : Int32) (v0_7 : Int32) (v0_8 : Int32) (v0_9 : Int32) (v0_11 : Int32) (f1 : Nat → Int32) (f2 : Nat → Int32) (f3 : Nat → Int32) (f4 : Nat → Int32) (h_v0_5 : 0 ≤ v0_5 ∧ v0_5 ≤ 1200) (h_v0_6 : 0 ≤ v0_6 ∧ v0_6 ≤ 1200) (h_v0_7 : 0 ≤ v0_7 ∧ v0_7 ≤ 1200) (h_v0_8 : 0 ≤ v0_8 ∧ v0_8 ≤ 4) (h_v0_11 : 1 ≤ v0_11 ∧ v0_11 ≤ 1) (h_f1 : (∀ i : Nat, 0 ≤ f1 i ∧ f1 i ≤ 255)) (h_f3 : (∀ i : Nat, 0 ≤ f3 i ∧ f3 i ≤ 14)) (hx_0 : (∀ k : Nat, k < 71 → f2 k = zTab k)) : zw (fn_X12_toldNumber v0_5 v0_6 v0_7 v0_8 v0_9 v0_11 f1 f2 f3 f4) (fun r => 0 ≤ r.2.1 ∧ r.2.1 ≤ 1200 ∧ 0 ≤ r.2.2.1 ∧ r.2.2.1 ≤ 1200 ∧ 0 ≤ r.2.2.2.1 ∧ r.2.2.2.1 ≤ 4 ∧ 0 ≤ r.1 ∧ r.1 ≤ 13 ∧ v0_6 ≤ r.2.1 ∧ v0_8 ≤ r.2.2.2.1) := by
  unfold fn_X12_toldNumber
  refine zw_zb0 (sf_X12_name v0_5 v0_6 v0_7 v0_8 v0_9 f1 f2 (by first | with_reducible assumption | exact ⟨by with_reducible assumption, by with_reducible assumption⟩ | first | lia | grind [zu_at, zu_atL, zvn]) (by first | with_reducible assumption | exact ⟨by with_reducible assumption, by with_reducible assumption⟩ | first | lia | grind [zu_at, zu_atL, zvn]) (by first | with_reducible assumption | exact ⟨by with_reducible assumption, by with_reducible assumption⟩ | first | lia | grind [zu_at, zu_atL, zvn]) (by first | with_reducible assumption | exact ⟨by with_reducible assumption, by with_reducible assumption⟩ | first | lia | grind [zu_at, zu_atL, zvn]) (by first | with_reducible assumption | exact ⟨by with_reducible assumption, by with_reducible assumption⟩ | first | lia | grind [zu_at, zu_atL, zvn]) (by first | with_reducible assumption | exact ⟨by with_reducible assumption, by with_reducible assumption⟩ | first | lia | grind [zu_at, zu_atL, zvn])) (fun o_1 ho_1 => ?_)
  obtain ⟨o_1_0, o_1_1, o_1_2, o_1_3, o_1_4⟩ := o_1
  try dsimp only at ho_1
  obtain ⟨ho_1_0, ho_1_1, ho_1_2, ho_1_3, ho_1_4, ho_1_5, ho_1_6, ho_1_7⟩ := ho_1
  refine zw_zb0 (sf_X12_goesWell o_1_3 (by first | with_reducible assumption | exact ⟨by with_reducible assumption, by with_reducible assumption⟩ | first | lia | grind [zu_at, zu_atL, zvn])) (fun o_5 ho_5 => ?_)
  obtain ⟨ho_5_0, ho_5_1, ho_5_2, ho_5_3, ho_5_4, ho_5_5⟩ := ho_5
  refine zw_zj (fun s_9 => (-1) ≤ s_9 ∧ s_9 ≤ 13 ∧ v0_8 ≤ s_9 + 4 ∧ o_1_3 ≤ s_9 + 4) (fun s_9 Hj_9 => ?_) (fun j_9 hj_9 => ?_)
  · obtain ⟨Hj_9_0, Hj_9_1, Hj_9_2, Hj_9_3⟩ := Hj_9
    refine zw_zb0 (sf_X12_goesWell o_1_3 (by first | with_reducible assumption | exact ⟨by with_reducible assumption, by with_reducible assumption⟩ | ((try clear hj_9); first | lia | grind [zu_at, zu_atL, zvn]))) (fun o_10 ho_10 => ?_)
    obtain ⟨ho_10_0, ho_10_1, ho_10_2, ho_10_3, ho_10_4, ho_10_5⟩ := ho_10
    refine zw_if (fun c1 => ?_) (fun c1 => ?_)
    · refine zw_zb0 (sf_X12_goesWell o_1_3 (by first | with_reducible assumption | exact ⟨by with_reducible assumption, by with_reducible assumption⟩ | ((try clear hj_9); first | lia | grind [zu_at, zu_atL, zvn]))) (fun o_15 ho_15 => ?_)
      obtain ⟨ho_15_0, ho_15_1, ho_15_2, ho_15_3, ho_15_4, ho_15_5⟩ := ho_15
      refine zw_if (fun c2 => ?_) (fun c2 => ?_)
      · refine zw_some ?_
        first | exact True.intro | ((try dsimp only); (repeat' apply And.intro) <;> first | with_reducible assumption | ((try clear hj_9); first | lia | grind [zu_at, zu_atL, zvn]))
      refine zw_some ?_
      first | exact True.intro | ((try dsimp only); (repeat' apply And.intro) <;> first | with_reducible assumption | ((try clear hj_9); first | lia | grind [zu_at, zu_atL, zvn]))
    refine zw_if (fun c3 => ?_) (fun c3 => ?_)
    · refine zw_zb0 (sf_X12_faults 3 o_1_2 o_1_3 o_1_4 (by first | with_reducible assumption | exact ⟨by with_reducible assumption, by with_reducible assumption⟩ | ((try clear hj_9); first | lia | grind [zu_at, zu_atL, zvn])) (by first | with_reducible assumption | exact ⟨by with_reducible assumption, by with_reducible assumption⟩ | ((try clear hj_9); first | lia | grind [zu_at, zu_atL, zvn]))) (fun o_26 ho_26 => ?_)
      obtain ⟨o_26_0, o_26_1⟩ := o_26
      try dsimp only at ho_26
      obtain ⟨ho_26_0, ho_26_1, ho_26_2, ho_26_3⟩ := ho_26
      refine zw_zb0 (sf_X12_goesWell o_26_0 (by first | with_reducible assumption | exact ⟨by with_reducible assumption, by with_reducible assumption⟩ | ((try clear hj_9); first | lia | grind [zu_at, zu_atL, zvn]))) (fun o_30 ho_30 => ?_)
      obtain ⟨ho_30_0, ho_30_1, ho_30_2, ho_30_3, ho_30_4, ho_30_5⟩ := ho_30
      refine zw_if (fun c4 => ?_) (fun c4 => ?_)
      · refine zw_some ?_
        first | exact True.intro | ((try dsimp only); (repeat' apply And.intro) <;> first | with_reducible assumption | ((try clear hj_9); first | lia | grind [zu_at, zu_atL, zvn]))
      refine zw_some ?_
      first | exact True.intro | ((try dsimp only); (repeat' apply And.intro) <;> first | with_reducible assumption | ((try clear hj_9); first | lia | grind [zu_at, zu_atL, zvn]))
    refine zw_zb0 (sf_X12_goesWell o_1_3 (by first | with_reducible assumption | exact ⟨by with_reducible assumption, by with_reducible assumption⟩ | ((try clear hj_9); first | lia | grind [zu_at, zu_atL, zvn]))) (fun o_21 ho_21 => ?_)
    obtain ⟨ho_21_0, ho_21_1, ho_21_2, ho_21_3, ho_21_4, ho_21_5⟩ := ho_21
    refine zw_if (fun c5 => ?_) (fun c5 => ?_)
    · refine zw_some ?_
      first | exact True.intro | ((try dsimp only); (repeat' apply And.intro) <;> first | with_reducible assumption | ((try clear hj_9); first | lia | grind [zu_at, zu_atL, zvn]))
    refine zw_some ?_
    first | exact True.intro | ((try dsimp only); (repeat' apply And.intro) <;> first | with_reducible assumption | ((try clear hj_9); first | lia | grind [zu_at, zu_atL, zvn]))
  refine zw_if (fun c6 => ?_) (fun c6 => ?_)
  · exact hj_9 _ (by first | exact True.intro | ((try dsimp only); (repeat' apply And.intro) <;> first | with_reducible assumption | ((try clear hj_9); first | lia | grind [zu_at, zu_atL, zvn])))
  refine zw_zb0 (sf_X12_numberNamed o_1_0 v0_11 f3 f4 (by first | with_reducible assumption | exact ⟨by with_reducible assumption, by with_reducible assumption⟩ | ((try clear hj_9); first | lia | grind [zu_at, zu_atL, zvn])) (by first | with_reducible assumption | exact ⟨by with_reducible assumption, by with_reducible assumption⟩ | ((try clear hj_9); first | lia | grind [zu_at, zu_atL, zvn]))) (fun o_36 ho_36 => ?_)
  obtain ⟨ho_36_0, ho_36_1, ho_36_2, ho_36_3, ho_36_4⟩ := ho_36
  exact hj_9 _ (by first | exact True.intro | ((try dsimp only); (repeat' apply And.intro) <;> first | with_reducible assumption | ((try clear hj_9); first | lia | grind [zu_at, zu_atL, zvn])))
set_option maxHeartbeats 4000000 in
set_option maxRecDepth 100000 in
theorem sf_X12_readsFormat (v0_5 : Int32) (v0_6 : Int32) (v0_7 : Int32) (v0_8 : Int32) (v0_9 : Int32) (v0_11 : Int32) (f1 : Nat → Int32) (f2 : Nat → Int32) (f3 : Nat → Int32) (f4 : Nat → Int32) (f5 : Nat → Int32) (f6 : Nat → Int32) (f7 : Nat → Int32) (f8 : Nat → Int32) (f9 : Nat → Int32) (h_v0_5 : 0 ≤ v0_5 ∧ v0_5 ≤ 1200) (h_v0_6 : 0 ≤ v0_6 ∧ v0_6 ≤ 1200) (h_v0_7 : 0 ≤ v0_7 ∧ v0_7 ≤ 1200) (h_v0_8 : 0 ≤ v0_8 ∧ v0_8 ≤ 4) (h_v0_11 : 1 ≤ v0_11 ∧ v0_11 ≤ 1) (h_f1 : (∀ i : Nat, 0 ≤ f1 i ∧ f1 i ≤ 255)) (h_f3 : (∀ i : Nat, 0 ≤ f3 i ∧ f3 i ≤ 4)) (h_f5 : (∀ i : Nat, 0 ≤ f5 i ∧ f5 i ≤ 14)) (hr_0 : (f3 v0_11.toNatClampNeg) ≤ 3) (hx_0 : (∀ k : Nat, k < 71 → f2 k = zTab k)) : zw (fn_X12_readsFormat v0_5 v0_6 v0_7 v0_8 v0_9 v0_11 f1 f2 f3 f4 f5 f6 f7 f8 f9) (fun r => 0 ≤ r.1 ∧ r.1 ≤ 1200 ∧ 0 ≤ r.2.1 ∧ r.2.1 ≤ 1200 ∧ 0 ≤ r.2.2.1 ∧ r.2.2.1 ≤ 4 ∧ (∀ i : Nat, 0 ≤ r.2.2.2.2.1 i ∧ r.2.2.2.2.1 i ≤ 4) ∧ v0_6 ≤ r.1 ∧ v0_8 ≤ r.2.2.1 ∧ (∀ i : Nat, r.2.2.2.2.2.2.1 i = f7 i ∨ 1 ≤ r.2.2.2.2.2.2.1 i) ∧ (∀ x : Int32, 0 ≤ x → x < r.2.2.2.2.1 v0_11.toNatClampNeg → x < f3 v0_11.toNatClampNeg ∨ 1 ≤ r.2.2.2.2.2.2.1 (4 + x).toNatClampNeg) ∧ (∀ x : Int32, 0 ≤ x → x < 4 → r.2.2.2.2.2.2.1 x.toNatClampNeg = f7 x.toNatClampNeg) ∧ r.2.2.2.2.1 (0 : Int32).toNatClampNeg = f3 (0 : Int32).toNatClampNeg) := by
  unfold fn_X12_readsFormat
  refine zw_zb0 (sf_X12_newName v0_5 v0_6 v0_7 v0_8 v0_9 v0_11 f1 f2 f3 f4 f5 f6 (by first | with_reducible assumption | exact ⟨by with_reducible assumption, by with_reducible assumption⟩ | first | lia | grind [zu_at, zu_atL, zvn]) (by first | with_reducible assumption | exact ⟨by with_reducible assumption, by with_reducible assumption⟩ | first | lia | grind [zu_at, zu_atL, zvn]) (by first | with_reducible assumption | exact ⟨by with_reducible assumption, by with_reducible assumption⟩ | first | lia | grind [zu_at, zu_atL, zvn]) (by first | with_reducible assumption | exact ⟨by with_reducible assumption, by with_reducible assumption⟩ | first | lia | grind [zu_at, zu_atL, zvn]) (by first | with_reducible assumption | exact ⟨by with_reducible assumption, by with_reducible assumption⟩ | first | lia | grind [zu_at, zu_atL, zvn]) (by first | with_reducible assumption | exact ⟨by with_reducible assumption, by with_reducible assumption⟩ | first | lia | grind [zu_at, zu_atL, zvn]) (by first | with_reducible assumption | exact ⟨by with_reducible assumption, by with_reducible assumption⟩ | first | lia | grind [zu_at, zu_atL, zvn]) (by first | with_reducible assumption | exact ⟨by with_reducible assumption, by with_reducible assumption⟩ | first | lia | grind [zu_at, zu_atL, zvn]) (by first | with_reducible assumption | exact ⟨by with_reducible assumption, by with_reducible assumption⟩ | first | lia | grind [zu_at, zu_atL, zvn])) (fun o_1 ho_1 => ?_)
  obtain ⟨o_1_0, o_1_1, o_1_2, o_1_3, o_1_4⟩ := o_1
  try dsimp only at ho_1
  obtain ⟨ho_1_0, ho_1_1, ho_1_2, ho_1_3, ho_1_4, ho_1_5, ho_1_6, ho_1_7⟩ := ho_1
  refine zw_zb0 (sf_X12_must 1 v0_5 o_1_1 o_1_2 o_1_3 o_1_4 f1 f2 (by first | with_reducible assumption | exact ⟨by with_reducible assumption, by with_reducible assumption⟩ | first | lia | grind [zu_at, zu_atL, zvn]) (by first | with_reducible assumption | exact ⟨by with_reducible assumption, by with_reducible assumption⟩ | first | lia | grind [zu_at, zu_atL, zvn]) (by first | with_reducible assumption | exact ⟨by with_reducible assumption, by with_reducible assumption⟩ | first | lia | grind [zu_at, zu_atL, zvn]) (by first | with_reducible assumption | exact ⟨by with_reducible assumption, by with_reducible assumption⟩ | first | lia | grind [zu_at, zu_atL, zvn]) (by first | with_reducible assumption | exact ⟨by with_reducible assumption, by with_reducible assumption⟩ | first | lia | grind [zu_at, zu_atL, zvn]) (by first | with_reducible assumption | exact ⟨by with_reducible assumption, by with_reducible assumption⟩ | first | lia | grind [zu_at, zu_atL, zvn])) (fun o_5 ho_5 => ?_)
  obtain ⟨o_5_0, o_5_1, o_5_2, o_5_3⟩ := o_5
  try dsimp only at ho_5
  obtain ⟨ho_5_0, ho_5_1, ho_5_2, ho_5_3, ho_5_4, ho_5_5, ho_5_6, ho_5_7⟩ := ho_5
  refine zw_zb0 (sf_X12_number (1 : Int64) (1000000 : Int64) v0_5 o_5_0 o_5_1 o_5_2 o_5_3 f1 (by first | with_reducible assumption | exact ⟨by with_reducible assumption, by with_reducible assumption⟩ | first | lia | grind [zu_at, zu_atL, zvn]) (by first | with_reducible assumption | exact ⟨by with_reducible assumption, by with_reducible assumption⟩ | first | lia | grind [zu_at, zu_atL, zvn]) (by first | with_reducible assumption | exact ⟨by with_reducible assumption, by with_reducible assumption⟩ | first | lia | grind [zu_at, zu_atL, zvn]) (by first | with_reducible assumption | exact ⟨by with_reducible assumption, by with_reducible assumption⟩ | first | lia | grind [zu_at, zu_atL, zvn]) (by first | with_reducible assumption | exact ⟨by with_reducible assumption, by with_reducible assumption⟩ | first | lia | grind [zu_at, zu_atL, zvn])) (fun o_9 ho_9 => ?_)
  obtain ⟨o_9_0, o_9_1, o_9_2, o_9_3, o_9_4⟩ := o_9
  try dsimp only at ho_9
  obtain ⟨ho_9_0, ho_9_1, ho_9_2, ho_9_3, ho_9_4, ho_9_5, ho_9_6, ho_9_7, ho_9_8⟩ := ho_9
  refine zw_zb0 (sf_X12_must 2 v0_5 o_9_1 o_9_2 o_9_3 o_9_4 f1 f2 (by first | with_reducible assumption | exact ⟨by with_reducible assumption, by with_reducible assumption⟩ | first | lia | grind [zu_at, zu_atL, zvn]) (by first | with_reducible assumption | exact ⟨by with_reducible assumption, by with_reducible assumption⟩ | first | lia | grind [zu_at, zu_atL, zvn]) (by first | with_reducible assumption | exact ⟨by with_reducible assumption, by with_reducible assumption⟩ | first | lia | grind [zu_at, zu_atL, zvn]) (by first | with_reducible assumption | exact ⟨by with_reducible assumption, by with_reducible assumption⟩ | first | lia | grind [zu_at, zu_atL, zvn]) (by first | with_reducible assumption | exact ⟨by with_reducible assumption, by with_reducible assumption⟩ | first | lia | grind [zu_at, zu_atL, zvn]) (by first | with_reducible assumption | exact ⟨by with_reducible assumption, by with_reducible assumption⟩ | first | lia | grind [zu_at, zu_atL, zvn])) (fun o_13 ho_13 => ?_)
  obtain ⟨o_13_0, o_13_1, o_13_2, o_13_3⟩ := o_13
  try dsimp only at ho_13
  obtain ⟨ho_13_0, ho_13_1, ho_13_2, ho_13_3, ho_13_4, ho_13_5, ho_13_6, ho_13_7⟩ := ho_13
  refine zw_zb0 (sf_X12_digits v0_5 o_13_0 o_13_1 o_13_2 o_13_3 f1 (by first | with_reducible assumption | exact ⟨by with_reducible assumption, by with_reducible assumption⟩ | first | lia | grind [zu_at, zu_atL, zvn]) (by first | with_reducible assumption | exact ⟨by with_reducible assumption, by with_reducible assumption⟩ | first | lia | grind [zu_at, zu_atL, zvn]) (by first | with_reducible assumption | exact ⟨by with_reducible assumption, by with_reducible assumption⟩ | first | lia | grind [zu_at, zu_atL, zvn]) (by first | with_reducible assumption | exact ⟨by with_reducible assumption, by with_reducible assumption⟩ | first | lia | grind [zu_at, zu_atL, zvn]) (by first | with_reducible assumption | exact ⟨by with_reducible assumption, by with_reducible assumption⟩ | first | lia | grind [zu_at, zu_atL, zvn])) (fun o_17 ho_17 => ?_)
  obtain ⟨o_17_0, o_17_1, o_17_2, o_17_3, o_17_4⟩ := o_17
  try dsimp only at ho_17
  obtain ⟨ho_17_0, ho_17_1, ho_17_2, ho_17_3, ho_17_4, ho_17_5, ho_17_6, ho_17_7⟩ := ho_17
  refine zw_zb0 (sf_X12_goesWell o_17_3 (by first | with_reducible assumption | exact ⟨by with_reducible assumption, by with_reducible assumption⟩ | first | lia | grind [zu_at, zu_atL, zvn])) (fun o_21 ho_21 => ?_)
  obtain ⟨ho_21_0, ho_21_1, ho_21_2, ho_21_3, ho_21_4, ho_21_5⟩ := ho_21
  refine zw_zj (fun s_25 => 0 ≤ s_25.1 ∧ s_25.1 ≤ 4 ∧ v0_8 ≤ s_25.1 ∧ o_5_2 ≤ s_25.1 ∧ o_13_2 ≤ s_25.1 ∧ o_17_3 ≤ s_25.1) (fun s_25 Hj_25 => ?_) (fun j_25 hj_25 => ?_)
  · obtain ⟨s_25_0, s_25_1⟩ := s_25
    try dsimp only at Hj_25
    obtain ⟨Hj_25_0, Hj_25_1, Hj_25_2, Hj_25_3, Hj_25_4, Hj_25_5⟩ := Hj_25
    refine zw_zb0 (sf_X12_must 3 v0_5 o_17_1 o_17_2 s_25_0 s_25_1 f1 f2 (by first | with_reducible assumption | exact ⟨by with_reducible assumption, by with_reducible assumption⟩ | ((try clear hj_25); first | lia | grind [zu_at, zu_atL, zvn])) (by first | with_reducible assumption | exact ⟨by with_reducible assumption, by with_reducible assumption⟩ | ((try clear hj_25); first | lia | grind [zu_at, zu_atL, zvn])) (by first | with_reducible assumption | exact ⟨by with_reducible assumption, by with_reducible assumption⟩ | ((try clear hj_25); first | lia | grind [zu_at, zu_atL, zvn])) (by first | with_reducible assumption | exact ⟨by with_reducible assumption, by with_reducible assumption⟩ | ((try clear hj_25); first | lia | grind [zu_at, zu_atL, zvn])) (by first | with_reducible assumption | exact ⟨by with_reducible assumption, by with_reducible assumption⟩ | ((try clear hj_25); first | lia | grind [zu_at, zu_atL, zvn])) (by first | with_reducible assumption | exact ⟨by with_reducible assumption, by with_reducible assumption⟩ | ((try clear hj_25); first | lia | grind [zu_at, zu_atL, zvn]))) (fun o_26 ho_26 => ?_)
    obtain ⟨o_26_0, o_26_1, o_26_2, o_26_3⟩ := o_26
    try dsimp only at ho_26
    obtain ⟨ho_26_0, ho_26_1, ho_26_2, ho_26_3, ho_26_4, ho_26_5, ho_26_6, ho_26_7⟩ := ho_26
    refine zw_zb0 (sf_X12_number (0 : Int64) (999 : Int64) v0_5 o_26_0 o_26_1 o_26_2 o_26_3 f1 (by first | with_reducible assumption | exact ⟨by with_reducible assumption, by with_reducible assumption⟩ | ((try clear hj_25); first | lia | grind [zu_at, zu_atL, zvn])) (by first | with_reducible assumption | exact ⟨by with_reducible assumption, by with_reducible assumption⟩ | ((try clear hj_25); first | lia | grind [zu_at, zu_atL, zvn])) (by first | with_reducible assumption | exact ⟨by with_reducible assumption, by with_reducible assumption⟩ | ((try clear hj_25); first | lia | grind [zu_at, zu_atL, zvn])) (by first | with_reducible assumption | exact ⟨by with_reducible assumption, by with_reducible assumption⟩ | ((try clear hj_25); first | lia | grind [zu_at, zu_atL, zvn])) (by first | with_reducible assumption | exact ⟨by with_reducible assumption, by with_reducible assumption⟩ | ((try clear hj_25); first | lia | grind [zu_at, zu_atL, zvn]))) (fun o_30 ho_30 => ?_)
    obtain ⟨o_30_0, o_30_1, o_30_2, o_30_3, o_30_4⟩ := o_30
    try dsimp only at ho_30
    obtain ⟨ho_30_0, ho_30_1, ho_30_2, ho_30_3, ho_30_4, ho_30_5, ho_30_6, ho_30_7, ho_30_8⟩ := ho_30
    refine zw_zb0 (sf_X12_goesWell o_30_3 (by first | with_reducible assumption | exact ⟨by with_reducible assumption, by with_reducible assumption⟩ | ((try clear hj_25); first | lia | grind [zu_at, zu_atL, zvn]))) (fun o_34 ho_34 => ?_)
    obtain ⟨ho_34_0, ho_34_1, ho_34_2, ho_34_3, ho_34_4, ho_34_5⟩ := ho_34
    refine zw_if (fun c1 => ?_) (fun c1 => ?_)
    · refine zw_some ?_
      first | exact True.intro | ((try dsimp only); (repeat' apply And.intro) <;> first | with_reducible assumption | with_reducible exact fun _ => Or.inl rfl | with_reducible exact fun _ _ _ => rfl | with_reducible exact fun _ _ h => Or.inl h | with_reducible rfl | ((with_reducible refine zU7 ?_ ⟨?_, ?_⟩) <;> first | with_reducible assumption | lia) | ((with_reducible refine zU1 ?_) <;> grind [z32_in]) | with_reducible exact zU1m | ((with_reducible refine zU4 ?_) <;> ((try clear hj_25); lia)) | ((with_reducible refine zU2 (h_f3 _) ?_ ?_) <;> first | lia | grind [z32_in]) | ((with_reducible refine zU3 ?_) <;> ((try clear hj_25); lia)) | ((with_reducible refine zU5 (h_f5 _) ?_) <;> with_reducible assumption) | ((with_reducible refine zU6 ?_) <;> ((try clear hj_25); lia)) | ((with_reducible refine zU8 ⟨?_, ?_⟩) <;> ((try clear hj_25); first | lia | grind)) | ((with_reducible refine zO1 ?_) <;> with_reducible assumption) | ((with_reducible refine zO2 ?_) <;> with_reducible assumption) | ((try clear hj_25); first | lia | grind [zu_at, zu_atL, zvn]))
    refine zw_zg32 2 (by decide) (by (try dsimp only); ((try clear hj_25); first | lia | grind [zu_at, zu_atL, zvn])) ?_
    refine zw_zb0 (sf_X12_f (f3 v0_11.toNatClampNeg) v0_11 (by first | with_reducible assumption | exact ⟨by with_reducible assumption, by with_reducible assumption⟩ | ((try clear hj_25); first | lia | grind [zu_at, zu_atL, zvn])) (by first | with_reducible assumption | exact ⟨by with_reducible assumption, by with_reducible assumption⟩ | ((try clear hj_25); first | lia | grind [zu_at, zu_atL, zvn]))) (fun o_40 ho_40 => ?_)
    obtain ⟨ho_40_0, ho_40_1, ho_40_2, ho_40_3⟩ := ho_40
    refine zw_zg32 8 (by decide) (by (try dsimp only); ((try clear hj_25); first | lia | grind [zu_at, zu_atL, zvn])) ?_
    refine zw_some ?_
    first | exact True.intro | ((try dsimp only); (repeat' apply And.intro) <;> first | with_reducible assumption | with_reducible exact fun _ => Or.inl rfl | with_reducible exact fun _ _ _ => rfl | with_reducible exact fun _ _ h => Or.inl h | with_reducible rfl | ((with_reducible refine zU7 ?_ ⟨?_, ?_⟩) <;> first | with_reducible assumption | lia) | ((with_reducible refine zU1 ?_) <;> grind [z32_in]) | with_reducible exact zU1m | ((with_reducible refine zU4 ?_) <;> ((try clear hj_25); lia)) | ((with_reducible refine zU2 (h_f3 _) ?_ ?_) <;> first | lia | grind [z32_in]) | ((with_reducible refine zU3 ?_) <;> ((try clear hj_25); lia)) | ((with_reducible refine zU5 (h_f5 _) ?_) <;> with_reducible assumption) | ((with_reducible refine zU6 ?_) <;> ((try clear hj_25); lia)) | ((with_reducible refine zU8 ⟨?_, ?_⟩) <;> ((try clear hj_25); first | lia | grind)) | ((with_reducible refine zO1 ?_) <;> with_reducible assumption) | ((with_reducible refine zO2 ?_) <;> with_reducible assumption) | ((try clear hj_25); first | lia | grind [zu_at, zu_atL, zvn]))
  refine zw_if (fun c2 => ?_) (fun c2 => ?_)
  · exact hj_25 _ (by first | exact True.intro | ((try dsimp only); (repeat' apply And.intro) <;> first | with_reducible assumption | with_reducible exact fun _ => Or.inl rfl | with_reducible exact fun _ _ _ => rfl | with_reducible exact fun _ _ h => Or.inl h | with_reducible rfl | ((with_reducible refine zU7 ?_ ⟨?_, ?_⟩) <;> first | with_reducible assumption | lia) | ((with_reducible refine zU1 ?_) <;> grind [z32_in]) | with_reducible exact zU1m | ((with_reducible refine zU4 ?_) <;> ((try clear hj_25); lia)) | ((with_reducible refine zU2 (h_f3 _) ?_ ?_) <;> first | lia | grind [z32_in]) | ((with_reducible refine zU3 ?_) <;> ((try clear hj_25); lia)) | ((with_reducible refine zU5 (h_f5 _) ?_) <;> with_reducible assumption) | ((with_reducible refine zU6 ?_) <;> ((try clear hj_25); lia)) | ((with_reducible refine zU8 ⟨?_, ?_⟩) <;> ((try clear hj_25); first | lia | grind)) | ((with_reducible refine zO1 ?_) <;> with_reducible assumption) | ((with_reducible refine zO2 ?_) <;> with_reducible assumption) | ((try clear hj_25); first | lia | grind [zu_at, zu_atL, zvn])))
  refine zw_zb0 (sf_X12_isIn o_17_0 (1 : Int64) (1000000000 : Int64)) (fun o_46 ho_46 => ?_)
  obtain ⟨ho_46_0, ho_46_1, ho_46_2, ho_46_3, ho_46_4⟩ := ho_46
  refine zw_if (fun c3 => ?_) (fun c3 => ?_)
  · refine zw_zb0 (sf_X12_faults 2 o_17_2 o_17_3 o_17_4 (by first | with_reducible assumption | exact ⟨by with_reducible assumption, by with_reducible assumption⟩ | ((try clear hj_25); first | lia | grind [zu_at, zu_atL, zvn])) (by first | with_reducible assumption | exact ⟨by with_reducible assumption, by with_reducible assumption⟩ | ((try clear hj_25); first | lia | grind [zu_at, zu_atL, zvn]))) (fun o_51 ho_51 => ?_)
    obtain ⟨o_51_0, o_51_1⟩ := o_51
    try dsimp only at ho_51
    obtain ⟨ho_51_0, ho_51_1, ho_51_2, ho_51_3⟩ := ho_51
    exact hj_25 _ (by first | exact True.intro | ((try dsimp only); (repeat' apply And.intro) <;> first | with_reducible assumption | with_reducible exact fun _ => Or.inl rfl | with_reducible exact fun _ _ _ => rfl | with_reducible exact fun _ _ h => Or.inl h | with_reducible rfl | ((with_reducible refine zU7 ?_ ⟨?_, ?_⟩) <;> first | with_reducible assumption | lia) | ((with_reducible refine zU1 ?_) <;> grind [z32_in]) | with_reducible exact zU1m | ((with_reducible refine zU4 ?_) <;> ((try clear hj_25); lia)) | ((with_reducible refine zU2 (h_f3 _) ?_ ?_) <;> first | lia | grind [z32_in]) | ((with_reducible refine zU3 ?_) <;> ((try clear hj_25); lia)) | ((with_reducible refine zU5 (h_f5 _) ?_) <;> with_reducible assumption) | ((with_reducible refine zU6 ?_) <;> ((try clear hj_25); lia)) | ((with_reducible refine zU8 ⟨?_, ?_⟩) <;> ((try clear hj_25); first | lia | grind)) | ((with_reducible refine zO1 ?_) <;> with_reducible assumption) | ((with_reducible refine zO2 ?_) <;> with_reducible assumption) | ((try clear hj_25); first | lia | grind [zu_at, zu_atL, zvn])))
  exact hj_25 _ (by first | exact True.intro | ((try dsimp only); (repeat' apply And.intro) <;> first | with_reducible assumption | with_reducible exact fun _ => Or.inl rfl | with_reducible exact fun _ _ _ => rfl | with_reducible exact fun _ _ h => Or.inl h | with_reducible rfl | ((with_reducible refine zU7 ?_ ⟨?_, ?_⟩) <;> first | with_reducible assumption | lia) | ((with_reducible refine zU1 ?_) <;> grind [z32_in]) | with_reducible exact zU1m | ((with_reducible refine zU4 ?_) <;> ((try clear hj_25); lia)) | ((with_reducible refine zU2 (h_f3 _) ?_ ?_) <;> first | lia | grind [z32_in]) | ((with_reducible refine zU3 ?_) <;> ((try clear hj_25); lia)) | ((with_reducible refine zU5 (h_f5 _) ?_) <;> with_reducible assumption) | ((with_reducible refine zU6 ?_) <;> ((try clear hj_25); lia)) | ((with_reducible refine zU8 ⟨?_, ?_⟩) <;> ((try clear hj_25); first | lia | grind)) | ((with_reducible refine zO1 ?_) <;> with_reducible assumption) | ((with_reducible refine zO2 ?_) <;> with_reducible assumption) | ((try clear hj_25); first | lia | grind [zu_at, zu_atL, zvn])))
set_option maxHeartbeats 4000000 in
set_option maxRecDepth 100000 in
theorem sf_X12_newNumber (p1 : Int32) (p2 : Int32) (v0_11 : Int32) (f1 : Nat → Int32) (f2 : Nat → Int32) (f3 : Nat → Int32) (f4 : Nat → Int32) (f5 : Nat → Int32) (f6 : Nat → Int32) (f7 : Nat → Int32) (f8 : Nat → Int32) (h_v0_11 : 1 ≤ v0_11 ∧ v0_11 ≤ 1) (h_f1 : (∀ i : Nat, 0 ≤ f1 i ∧ f1 i ≤ 14)) (h_f4 : (∀ i : Nat, (-1) ≤ f4 i ∧ f4 i ≤ 13)) (h_f5 : (∀ i : Nat, (-1) ≤ f5 i ∧ f5 i ≤ 13)) (h_f6 : (∀ i : Nat, (-1) ≤ f6 i ∧ f6 i ≤ 3)) (h_f8 : (∀ i : Nat, 0 ≤ f8 i ∧ f8 i ≤ 13)) (hr_0 : (f1 v0_11.toNatClampNeg) ≤ 13) : zw (fn_X12_newNumber p1 p2 v0_11 f1 f2 f3 f4 f5 f6 f7 f8) (fun r => (∀ i : Nat, (-1) ≤ r.2.2.1 i ∧ r.2.2.1 i ≤ 13) ∧ (∀ i : Nat, (-1) ≤ r.2.2.2.1 i ∧ r.2.2.2.1 i ≤ 13) ∧ (∀ i : Nat, (-1) ≤ r.2.2.2.2.1 i ∧ r.2.2.2.2.1 i ≤ 3) ∧ (∀ i : Nat, 0 ≤ r.2.2.2.2.2.2 i ∧ r.2.2.2.2.2.2 i ≤ 13) ∧ (∀ i : Nat, r.2.2.2.2.1 i = f6 i ∨ r.2.2.2.2.1 i = (-1)) ∧ r.2.2.2.2.1 (14 + f1 v0_11.toNatClampNeg).toNatClampNeg = (-1)) := by
  unfold fn_X12_newNumber
  refine zw_zg32 2 (by decide) (by (try dsimp only); first | lia | grind [zu_at, zu_atL, zvn]) ?_
  refine zw_zb0 (sf_X12_n (f1 v0_11.toNatClampNeg) v0_11 (by first | with_reducible assumption | exact ⟨by with_reducible assumption, by with_reducible assumption⟩ | first | lia | grind [zu_at, zu_atL, zvn]) (by first | with_reducible assumption | exact ⟨by with_reducible assumption, by with_reducible assumption⟩ | first | lia | grind [zu_at, zu_atL, zvn])) (fun o_2 ho_2 => ?_)
  obtain ⟨ho_2_0, ho_2_1, ho_2_2, ho_2_3⟩ := ho_2
  refine zw_zg32 28 (by decide) (by (try dsimp only); first | lia | grind [zu_at, zu_atL, zvn]) ?_
  refine zw_zb0 (sf_X12_n (f1 v0_11.toNatClampNeg) v0_11 (by first | with_reducible assumption | exact ⟨by with_reducible assumption, by with_reducible assumption⟩ | first | lia | grind [zu_at, zu_atL, zvn]) (by first | with_reducible assumption | exact ⟨by with_reducible assumption, by with_reducible assumption⟩ | first | lia | grind [zu_at, zu_atL, zvn])) (fun o_7 ho_7 => ?_)
  obtain ⟨ho_7_0, ho_7_1, ho_7_2, ho_7_3⟩ := ho_7
  refine zw_zg32 28 (by decide) (by (try dsimp only); first | lia | grind [zu_at, zu_atL, zvn]) ?_
  refine zw_zb0 (sf_X12_n (f1 v0_11.toNatClampNeg) v0_11 (by first | with_reducible assumption | exact ⟨by with_reducible assumption, by with_reducible assumption⟩ | first | lia | grind [zu_at, zu_atL, zvn]) (by first | with_reducible assumption | exact ⟨by with_reducible assumption, by with_reducible assumption⟩ | first | lia | grind [zu_at, zu_atL, zvn])) (fun o_12 ho_12 => ?_)
  obtain ⟨ho_12_0, ho_12_1, ho_12_2, ho_12_3⟩ := ho_12
  refine zw_zg32 28 (by decide) (by (try dsimp only); first | lia | grind [zu_at, zu_atL, zvn]) ?_
  refine zw_zb0 (sf_X12_n (f1 v0_11.toNatClampNeg) v0_11 (by first | with_reducible assumption | exact ⟨by with_reducible assumption, by with_reducible assumption⟩ | first | lia | grind [zu_at, zu_atL, zvn]) (by first | with_reducible assumption | exact ⟨by with_reducible assumption, by with_reducible assumption⟩ | first | lia | grind [zu_at, zu_atL, zvn])) (fun o_17 ho_17 => ?_)
  obtain ⟨ho_17_0, ho_17_1, ho_17_2, ho_17_3⟩ := ho_17
  refine zw_zg32 28 (by decide) (by (try dsimp only); first | lia | grind [zu_at, zu_atL, zvn]) ?_
  refine zw_zb0 (sf_X12_n (f1 v0_11.toNatClampNeg) v0_11 (by first | with_reducible assumption | exact ⟨by with_reducible assumption, by with_reducible assumption⟩ | first | lia | grind [zu_at, zu_atL, zvn]) (by first | with_reducible assumption | exact ⟨by with_reducible assumption, by with_reducible assumption⟩ | first | lia | grind [zu_at, zu_atL, zvn])) (fun o_22 ho_22 => ?_)
  obtain ⟨ho_22_0, ho_22_1, ho_22_2, ho_22_3⟩ := ho_22
  refine zw_zg32 28 (by decide) (by (try dsimp only); first | lia | grind [zu_at, zu_atL, zvn]) ?_
  refine zw_zb0 (sf_X12_n (f1 v0_11.toNatClampNeg) v0_11 (by first | with_reducible assumption | exact ⟨by with_reducible assumption, by with_reducible assumption⟩ | first | lia | grind [zu_at, zu_atL, zvn]) (by first | with_reducible assumption | exact ⟨by with_reducible assumption, by with_reducible assumption⟩ | first | lia | grind [zu_at, zu_atL, zvn])) (fun o_27 ho_27 => ?_)
  obtain ⟨ho_27_0, ho_27_1, ho_27_2, ho_27_3⟩ := ho_27
  refine zw_zg32 28 (by decide) (by (try dsimp only); first | lia | grind [zu_at, zu_atL, zvn]) ?_
  refine zw_zb0 (sf_X12_n (f1 v0_11.toNatClampNeg) v0_11 (by first | with_reducible assumption | exact ⟨by with_reducible assumption, by with_reducible assumption⟩ | first | lia | grind [zu_at, zu_atL, zvn]) (by first | with_reducible assumption | exact ⟨by with_reducible assumption, by with_reducible assumption⟩ | first | lia | grind [zu_at, zu_atL, zvn])) (fun o_32 ho_32 => ?_)
  obtain ⟨ho_32_0, ho_32_1, ho_32_2, ho_32_3⟩ := ho_32
  refine zw_zg32 28 (by decide) (by (try dsimp only); first | lia | grind [zu_at, zu_atL, zvn]) ?_
  refine zw_some ?_
  first | exact True.intro | ((try dsimp only); (repeat' apply And.intro) <;> first | with_reducible assumption | with_reducible exact fun _ => Or.inl rfl | with_reducible exact fun _ _ _ => rfl | with_reducible exact fun _ _ h => Or.inl h | with_reducible rfl | ((with_reducible refine zU7 ?_ ⟨?_, ?_⟩) <;> first | with_reducible assumption | lia) | ((with_reducible refine zU1 ?_) <;> grind [z32_in]) | with_reducible exact zU1m | ((with_reducible refine zU4 ?_) <;> lia) | ((with_reducible refine zU2 (h_f3 _) ?_ ?_) <;> first | lia | grind [z32_in]) | ((with_reducible refine zU3 ?_) <;> lia) | ((with_reducible refine zU5 (h_f5 _) ?_) <;> with_reducible assumption) | ((with_reducible refine zU6 ?_) <;> lia) | ((with_reducible refine zU8 ⟨?_, ?_⟩) <;> first | lia | grind) | ((with_reducible refine zO1 ?_) <;> with_reducible assumption) | ((with_reducible refine zO2 ?_) <;> with_reducible assumption) | first | lia | grind [zu_at, zu_atL, zvn])
set_option maxHeartbeats 4000000 in
set_option maxRecDepth 100000 in
theorem sf_X12_readsInput (v0_5 : Int32) (v0_6 : Int32) (v0_7 : Int32) (v0_8 : Int32) (v0_9 : Int32) (v0_11 : Int32) (f1 : Nat → Int32) (f2 : Nat → Int32) (f3 : Nat → Int32) (f4 : Nat → Int32) (f5 : Nat → Int32) (f6 : Nat → Int32) (f7 : Nat → Int32) (f8 : Nat → Int32) (f9 : Nat → Int32) (f10 : Nat → Int32) (f11 : Nat → Int32) (f12 : Nat → Int32) (f13 : Nat → Int64) (f14 : Nat → Int64) (h_v0_5 : 0 ≤ v0_5 ∧ v0_5 ≤ 1200) (h_v0_6 : 0 ≤ v0_6 ∧ v0_6 ≤ 1200) (h_v0_7 : 0 ≤ v0_7 ∧ v0_7 ≤ 1200) (h_v0_8 : 0 ≤ v0_8 ∧ v0_8 ≤ 4) (h_v0_11 : 1 ≤ v0_11 ∧ v0_11 ≤ 1) (h_f1 : (∀ i : Nat, 0 ≤ f1 i ∧ f1 i ≤ 255)) (h_f3 : (∀ i : Nat, 0 ≤ f3 i ∧ f3 i ≤ 4)) (h_f5 : (∀ i : Nat, 0 ≤ f5 i ∧ f5 i ≤ 14)) (h_f8 : (∀ i : Nat, (-1) ≤ f8 i ∧ f8 i ≤ 13)) (h_f9 : (∀ i : Nat, (-1) ≤ f9 i ∧ f9 i ≤ 13)) (h_f10 : (∀ i : Nat, (-1) ≤ f10 i ∧ f10 i ≤ 3)) (h_f12 : (∀ i : Nat, 0 ≤ f12 i ∧ f12 i ≤ 13)) (hr_0 : (f5 v0_11.toNatClampNeg) ≤ 13) (hx_0 : (∀ k : Nat, k < 71 → f2 k = zTab k)) : zw (fn_X12_readsInput v0_5 v0_6 v0_7 v0_8 v0_9 v0_11 f1 f2 f3 f4 f5 f6 f7 f8 f9 f10 f11 f12 f13 f14) (fun r => 0 ≤ r.1 ∧ r.1 ≤ 1200 ∧ 0 ≤ r.2.1 ∧ r.2.1 ≤ 1200 ∧ 0 ≤ r.2.2.1 ∧ r.2.2.1 ≤ 4 ∧ (∀ i : Nat, 0 ≤ r.2.2.2.2.1 i ∧ r.2.2.2.2.1 i ≤ 14) ∧ (∀ i : Nat, (-1) ≤ r.2.2.2.2.2.2.2.1 i ∧ r.2.2.2.2.2.2.2.1 i ≤ 13) ∧ (∀ i : Nat, (-1) ≤ r.2.2.2.2.2.2.2.2.1 i ∧ r.2.2.2.2.2.2.2.2.1 i ≤ 13) ∧ (∀ i : Nat, (-1) ≤ r.2.2.2.2.2.2.2.2.2.1 i ∧ r.2.2.2.2.2.2.2.2.2.1 i ≤ 3) ∧ (∀ i : Nat, 0 ≤ r.2.2.2.2.2.2.2.2.2.2.2.1 i ∧ r.2.2.2.2.2.2.2.2.2.2.2.1 i ≤ 13) ∧ v0_6 ≤ r.1 ∧ v0_8 ≤ r.2.2.1 ∧ (∀ i : Nat, r.2.2.2.2.2.2.2.2.2.1 i = f10 i ∨ r.2.2.2.2.2.2.2.2.2.1 i = (-1)) ∧ (∀ k : Int32, 0 ≤ k → k < r.2.2.2.2.1 v0_11.toNatClampNeg → k < f5 v0_11.toNatClampNeg ∨ r.2.2.2.2.2.2.2.2.2.1 (14 + k).toNatClampNeg = (-1)) ∧ r.2.2.2.2.1 (0 : Int32).toNatClampNeg = f5 (0 : Int32).toNatClampNeg) := by
  unfold fn_X12_readsInput
  refine zw_zb0 (sf_X12_newName v0_5 v0_6 v0_7 v0_8 v0_9 v0_11 f1 f2 f3 f4 f5 f6 (by first | with_reducible assumption | exact ⟨by with_reducible assumption, by with_reducible assumption⟩ | first | lia | grind [zu_at, zu_atL, zvn]) (by first | with_reducible assumption | exact ⟨by with_reducible assumption, by with_reducible assumption⟩ | first | lia | grind [zu_at, zu_atL, zvn]) (by first | with_reducible assumption | exact ⟨by with_reducible assumption, by with_reducible assumption⟩ | first | lia | grind [zu_at, zu_atL, zvn]) (by first | with_reducible assumption | exact ⟨by with_reducible assumption, by with_reducible assumption⟩ | first | lia | grind [zu_at, zu_atL, zvn]) (by first | with_reducible assumption | exact ⟨by with_reducible assumption, by with_reducible assumption⟩ | first | lia | grind [zu_at, zu_atL, zvn]) (by first | with_reducible assumption | exact ⟨by with_reducible assumption, by with_reducible assumption⟩ | first | lia | grind [zu_at, zu_atL, zvn]) (by first | with_reducible assumption | exact ⟨by with_reducible assumption, by with_reducible assumption⟩ | first | lia | grind [zu_at, zu_atL, zvn]) (by first | with_reducible assumption | exact ⟨by with_reducible assumption, by with_reducible assumption⟩ | first | lia | grind [zu_at, zu_atL, zvn]) (by first | with_reducible assumption | exact ⟨by with_reducible assumption, by with_reducible assumption⟩ | first | lia | grind [zu_at, zu_atL, zvn])) (fun o_1 ho_1 => ?_)
  obtain ⟨o_1_0, o_1_1, o_1_2, o_1_3, o_1_4⟩ := o_1
  try dsimp only at ho_1
  obtain ⟨ho_1_0, ho_1_1, ho_1_2, ho_1_3, ho_1_4, ho_1_5, ho_1_6, ho_1_7⟩ := ho_1
  refine zw_zb0 (sf_X12_signed ((-10000000) : Int64) (10000000 : Int64) v0_5 o_1_1 o_1_2 o_1_3 o_1_4 f1 (by first | with_reducible assumption | exact ⟨by with_reducible assumption, by with_reducible assumption⟩ | first | lia | grind [zu_at, zu_atL, zvn]) (by first | with_reducible assumption | exact ⟨by with_reducible assumption, by with_reducible assumption⟩ | first | lia | grind [zu_at, zu_atL, zvn]) (by first | with_reducible assumption | exact ⟨by with_reducible assumption, by with_reducible assumption⟩ | first | lia | grind [zu_at, zu_atL, zvn]) (by first | with_reducible assumption | exact ⟨by with_reducible assumption, by with_reducible assumption⟩ | first | lia | grind [zu_at, zu_atL, zvn]) (by first | with_reducible assumption | exact ⟨by with_reducible assumption, by with_reducible assumption⟩ | first | lia | grind [zu_at, zu_atL, zvn])) (fun o_5 ho_5 => ?_)
  obtain ⟨o_5_0, o_5_1, o_5_2, o_5_3, o_5_4⟩ := o_5
  try dsimp only at ho_5
  obtain ⟨ho_5_0, ho_5_1, ho_5_2, ho_5_3, ho_5_4, ho_5_5, ho_5_6, ho_5_7⟩ := ho_5
  refine zw_zb0 (sf_X12_signed ((-10000000) : Int64) (10000000 : Int64) v0_5 o_5_1 o_5_2 o_5_3 o_5_4 f1 (by first | with_reducible assumption | exact ⟨by with_reducible assumption, by with_reducible assumption⟩ | first | lia | grind [zu_at, zu_atL, zvn]) (by first | with_reducible assumption | exact ⟨by with_reducible assumption, by with_reducible assumption⟩ | first | lia | grind [zu_at, zu_atL, zvn]) (by first | with_reducible assumption | exact ⟨by with_reducible assumption, by with_reducible assumption⟩ | first | lia | grind [zu_at, zu_atL, zvn]) (by first | with_reducible assumption | exact ⟨by with_reducible assumption, by with_reducible assumption⟩ | first | lia | grind [zu_at, zu_atL, zvn]) (by first | with_reducible assumption | exact ⟨by with_reducible assumption, by with_reducible assumption⟩ | first | lia | grind [zu_at, zu_atL, zvn])) (fun o_9 ho_9 => ?_)
  obtain ⟨o_9_0, o_9_1, o_9_2, o_9_3, o_9_4⟩ := o_9
  try dsimp only at ho_9
  obtain ⟨ho_9_0, ho_9_1, ho_9_2, ho_9_3, ho_9_4, ho_9_5, ho_9_6, ho_9_7⟩ := ho_9
  refine zw_zb0 (sf_X12_goesWell o_9_3 (by first | with_reducible assumption | exact ⟨by with_reducible assumption, by with_reducible assumption⟩ | first | lia | grind [zu_at, zu_atL, zvn])) (fun o_13 ho_13 => ?_)
  obtain ⟨ho_13_0, ho_13_1, ho_13_2, ho_13_3, ho_13_4, ho_13_5⟩ := ho_13
  refine zw_zj (fun s_17 => 0 ≤ s_17.1 ∧ s_17.1 ≤ 4 ∧ v0_8 ≤ s_17.1 ∧ o_1_3 ≤ s_17.1 ∧ o_5_3 ≤ s_17.1 ∧ o_9_3 ≤ s_17.1) (fun s_17 Hj_17 => ?_) (fun j_17 hj_17 => ?_)
  · obtain ⟨s_17_0, s_17_1⟩ := s_17
    try dsimp only at Hj_17
    obtain ⟨Hj_17_0, Hj_17_1, Hj_17_2, Hj_17_3, Hj_17_4, Hj_17_5⟩ := Hj_17
    refine zw_zb0 (sf_X12_goesWell s_17_0 (by first | with_reducible assumption | exact ⟨by with_reducible assumption, by with_reducible assumption⟩ | ((try clear hj_17); first | lia | grind [zu_at, zu_atL, zvn]))) (fun o_18 ho_18 => ?_)
    obtain ⟨ho_18_0, ho_18_1, ho_18_2, ho_18_3, ho_18_4, ho_18_5⟩ := ho_18
    refine zw_if (fun c1 => ?_) (fun c1 => ?_)
    · refine zw_some ?_
      first | exact True.intro | ((try dsimp only); (repeat' apply And.intro) <;> first | with_reducible assumption | with_reducible exact fun _ => Or.inl rfl | with_reducible exact fun _ _ _ => rfl | with_reducible exact fun _ _ h => Or.inl h | with_reducible rfl | ((with_reducible refine zU7 ?_ ⟨?_, ?_⟩) <;> first | with_reducible assumption | lia) | ((with_reducible refine zU1 ?_) <;> grind [z32_in]) | with_reducible exact zU1m | ((with_reducible refine zU4 ?_) <;> ((try clear hj_17); lia)) | ((with_reducible refine zU2 (h_f3 _) ?_ ?_) <;> first | lia | grind [z32_in]) | ((with_reducible refine zU3 ?_) <;> ((try clear hj_17); lia)) | ((with_reducible refine zU5 (h_f5 _) ?_) <;> with_reducible assumption) | ((with_reducible refine zU6 ?_) <;> ((try clear hj_17); lia)) | ((with_reducible refine zU8 ⟨?_, ?_⟩) <;> ((try clear hj_17); first | lia | grind)) | ((with_reducible refine zO1 ?_) <;> with_reducible assumption) | ((with_reducible refine zO2 ?_) <;> with_reducible assumption) | ((try clear hj_17); first | lia | grind [zu_at, zu_atL, zvn]))
    refine zw_zb0 (sf_X12_newNumber o_1_0 0 v0_11 f5 f6 f7 f8 f9 f10 f11 f12 (by first | with_reducible assumption | exact ⟨by with_reducible assumption, by with_reducible assumption⟩ | ((try clear hj_17); first | lia | grind [zu_at, zu_atL, zvn])) (by first | with_reducible assumption | exact ⟨by with_reducible assumption, by with_reducible assumption⟩ | ((try clear hj_17); first | lia | grind [zu_at, zu_atL, zvn])) (by first | with_reducible assumption | exact ⟨by with_reducible assumption, by with_reducible assumption⟩ | ((try clear hj_17); first | lia | grind [zu_at, zu_atL, zvn])) (by first | with_reducible assumption | exact ⟨by with_reducible assumption, by with_reducible assumption⟩ | ((try clear hj_17); first | lia | grind [zu_at, zu_atL, zvn])) (by first | with_reducible assumption | exact ⟨by with_reducible assumption, by with_reducible assumption⟩ | ((try clear hj_17); first | lia | grind [zu_at, zu_atL, zvn])) (by first | with_reducible assumption | exact ⟨by with_reducible assumption, by with_reducible assumption⟩ | ((try clear hj_17); first | lia | grind [zu_at, zu_atL, zvn])) (by first | with_reducible assumption | exact ⟨by with_reducible assumption, by with_reducible assumption⟩ | ((try clear hj_17); first | lia | grind [zu_at, zu_atL, zvn]))) (fun o_23 ho_23 => ?_)
    obtain ⟨o_23_0, o_23_1, o_23_2, o_23_3, o_23_4, o_23_5, o_23_6⟩ := o_23
    try dsimp only at ho_23
    obtain ⟨ho_23_0, ho_23_1, ho_23_2, ho_23_3, ho_23_4, ho_23_5⟩ := ho_23
    refine zw_zg32 2 (by decide) (by (try dsimp only); ((try clear hj_17); first | lia | grind [zu_at, zu_atL, zvn])) ?_
    refine zw_zb0 (sf_X12_n (f5 v0_11.toNatClampNeg) v0_11 (by first | with_reducible assumption | exact ⟨by with_reducible assumption, by with_reducible assumption⟩ | ((try clear hj_17); first | lia | grind [zu_at, zu_atL, zvn])) (by first | with_reducible assumption | exact ⟨by with_reducible assumption, by with_reducible assumption⟩ | ((try clear hj_17); first | lia | grind [zu_at, zu_atL, zvn]))) (fun o_28 ho_28 => ?_)
    obtain ⟨ho_28_0, ho_28_1, ho_28_2, ho_28_3⟩ := ho_28
    refine zw_zg32 28 (by decide) (by (try dsimp only); ((try clear hj_17); first | lia | grind [zu_at, zu_atL, zvn])) ?_
    refine zw_zb0 (sf_X12_n (f5 v0_11.toNatClampNeg) v0_11 (by first | with_reducible assumption | exact ⟨by with_reducible assumption, by with_reducible assumption⟩ | ((try clear hj_17); first | lia | grind [zu_at, zu_atL, zvn])) (by first | with_reducible assumption | exact ⟨by with_reducible assumption, by with_reducible assumption⟩ | ((try clear hj_17); first | lia | grind [zu_at, zu_atL, zvn]))) (fun o_33 ho_33 => ?_)
    obtain ⟨ho_33_0, ho_33_1, ho_33_2, ho_33_3⟩ := ho_33
    refine zw_zg32 28 (by decide) (by (try dsimp only); ((try clear hj_17); first | lia | grind [zu_at, zu_atL, zvn])) ?_
    refine zw_some ?_
    first | exact True.intro | ((try dsimp only); (repeat' apply And.intro) <;> first | with_reducible assumption | with_reducible exact fun _ => Or.inl rfl | with_reducible exact fun _ _ _ => rfl | with_reducible exact fun _ _ h => Or.inl h | with_reducible rfl | ((with_reducible refine zU7 ?_ ⟨?_, ?_⟩) <;> first | with_reducible assumption | lia) | ((with_reducible refine zU1 ?_) <;> grind [z32_in]) | with_reducible exact zU1m | ((with_reducible refine zU4 ?_) <;> ((try clear hj_17); lia)) | ((with_reducible refine zU2 (h_f3 _) ?_ ?_) <;> first | lia | grind [z32_in]) | ((with_reducible refine zU3 ?_) <;> ((try clear hj_17); lia)) | ((with_reducible refine zU5 (h_f5 _) ?_) <;> with_reducible assumption) | ((with_reducible refine zU6 ?_) <;> ((try clear hj_17); lia)) | ((with_reducible refine zU8 ⟨?_, ?_⟩) <;> ((try clear hj_17); first | lia | grind)) | ((with_reducible refine zO1 ?_) <;> with_reducible assumption) | ((with_reducible refine zO2 ?_) <;> with_reducible assumption) | ((try clear hj_17); first | lia | grind [zu_at, zu_atL, zvn]))
  refine zw_if (fun c2 => ?_) (fun c2 => ?_)
  · exact hj_17 _ (by first | exact True.intro | ((try dsimp only); (repeat' apply And.intro) <;> first | with_reducible assumption | with_reducible exact fun _ => Or.inl rfl | with_reducible exact fun _ _ _ => rfl | with_reducible exact fun _ _ h => Or.inl h | with_reducible rfl | ((with_reducible refine zU7 ?_ ⟨?_, ?_⟩) <;> first | with_reducible assumption | lia) | ((with_reducible refine zU1 ?_) <;> grind [z32_in]) | with_reducible exact zU1m | ((with_reducible refine zU4 ?_) <;> ((try clear hj_17); lia)) | ((with_reducible refine zU2 (h_f3 _) ?_ ?_) <;> first | lia | grind [z32_in]) | ((with_reducible refine zU3 ?_) <;> ((try clear hj_17); lia)) | ((with_reducible refine zU5 (h_f5 _) ?_) <;> with_reducible assumption) | ((with_reducible refine zU6 ?_) <;> ((try clear hj_17); lia)) | ((with_reducible refine zU8 ⟨?_, ?_⟩) <;> ((try clear hj_17); first | lia | grind)) | ((with_reducible refine zO1 ?_) <;> with_reducible assumption) | ((with_reducible refine zO2 ?_) <;> with_reducible assumption) | ((try clear hj_17); first | lia | grind [zu_at, zu_atL, zvn])))
  refine zw_ifc (lg_cmp_ge _ _) (fun c3 => ?_) (fun c3 => ?_)
  · exact hj_17 _ (by first | exact True.intro | ((try dsimp only); (repeat' apply And.intro) <;> first | with_reducible assumption | with_reducible exact fun _ => Or.inl rfl | with_reducible exact fun _ _ _ => rfl | with_reducible exact fun _ _ h => Or.inl h | with_reducible rfl | ((with_reducible refine zU7 ?_ ⟨?_, ?_⟩) <;> first | with_reducible assumption | lia) | ((with_reducible refine zU1 ?_) <;> grind [z32_in]) | with_reducible exact zU1m | ((with_reducible refine zU4 ?_) <;> ((try clear hj_17); lia)) | ((with_reducible refine zU2 (h_f3 _) ?_ ?_) <;> first | lia | grind [z32_in]) | ((with_reducible refine zU3 ?_) <;> ((try clear hj_17); lia)) | ((with_reducible refine zU5 (h_f5 _) ?_) <;> with_reducible assumption) | ((with_reducible refine zU6 ?_) <;> ((try clear hj_17); lia)) | ((with_reducible refine zU8 ⟨?_, ?_⟩) <;> ((try clear hj_17); first | lia | grind)) | ((with_reducible refine zO1 ?_) <;> with_reducible assumption) | ((with_reducible refine zO2 ?_) <;> with_reducible assumption) | ((try clear hj_17); first | lia | grind [zu_at, zu_atL, zvn])))
  refine zw_zb0 (sf_X12_faults 2 o_9_2 o_9_3 o_9_4 (by first | with_reducible assumption | exact ⟨by with_reducible assumption, by with_reducible assumption⟩ | ((try clear hj_17); first | lia | grind [zu_at, zu_atL, zvn])) (by first | with_reducible assumption | exact ⟨by with_reducible assumption, by with_reducible assumption⟩ | ((try clear hj_17); first | lia | grind [zu_at, zu_atL, zvn]))) (fun o_40 ho_40 => ?_)
  obtain ⟨o_40_0, o_40_1⟩ := o_40
  try dsimp only at ho_40
  obtain ⟨ho_40_0, ho_40_1, ho_40_2, ho_40_3⟩ := ho_40
  exact hj_17 _ (by first | exact True.intro | ((try dsimp only); (repeat' apply And.intro) <;> first | with_reducible assumption | with_reducible exact fun _ => Or.inl rfl | with_reducible exact fun _ _ _ => rfl | with_reducible exact fun _ _ h => Or.inl h | with_reducible rfl | ((with_reducible refine zU7 ?_ ⟨?_, ?_⟩) <;> first | with_reducible assumption | lia) | ((with_reducible refine zU1 ?_) <;> grind [z32_in]) | with_reducible exact zU1m | ((with_reducible refine zU4 ?_) <;> ((try clear hj_17); lia)) | ((with_reducible refine zU2 (h_f3 _) ?_ ?_) <;> first | lia | grind [z32_in]) | ((with_reducible refine zU3 ?_) <;> ((try clear hj_17); lia)) | ((with_reducible refine zU5 (h_f5 _) ?_) <;> with_reducible assumption) | ((with_reducible refine zU6 ?_) <;> ((try clear hj_17); lia)) | ((with_reducible refine zU8 ⟨?_, ?_⟩) <;> ((try clear hj_17); first | lia | grind)) | ((with_reducible refine zO1 ?_) <;> with_reducible assumption) | ((with_reducible refine zO2 ?_) <;> with_reducible assumption) | ((try clear hj_17); first | lia | grind [zu_at, zu_atL, zvn])))
set_option maxHeartbeats 4000000 in
set_option maxRecDepth 100000 in
theorem sf_X12_readsWhat (v0_5 : Int32) (v0_6 : Int32) (v0_7 : Int32) (v0_8 : Int32) (v0_9 : Int32) (v0_11 : Int32) (f1 : Nat → Int32) (f2 : Nat → Int32) (f3 : Nat → Int32) (f4 : Nat → Int32) (h_v0_5 : 0 ≤ v0_5 ∧ v0_5 ≤ 1200) (h_v0_6 : 0 ≤ v0_6 ∧ v0_6 ≤ 1200) (h_v0_7 : 0 ≤ v0_7 ∧ v0_7 ≤ 1200) (h_v0_8 : 0 ≤ v0_8 ∧ v0_8 ≤ 4) (h_v0_11 : 1 ≤ v0_11 ∧ v0_11 ≤ 1) (h_f1 : (∀ i : Nat, 0 ≤ f1 i ∧ f1 i ≤ 255)) (h_f3 : (∀ i : Nat, 0 ≤ f3 i ∧ f3 i ≤ 14)) (hx_0 : (∀ k : Nat, k < 71 → f2 k = zTab k)) : zw (fn_X12_readsWhat v0_5 v0_6 v0_7 v0_8 v0_9 v0_11 f1 f2 f3 f4) (fun r => 0 ≤ r.2.2.1 ∧ r.2.2.1 ≤ 1200 ∧ 0 ≤ r.2.2.2.1 ∧ r.2.2.2.1 ≤ 1200 ∧ 0 ≤ r.2.2.2.2.1 ∧ r.2.2.2.2.1 ≤ 4 ∧ (-1) ≤ r.1 ∧ r.1 ≤ 13 ∧ v0_6 ≤ r.2.2.1 ∧ v0_8 ≤ r.2.2.2.2.1 ∧ v0_8 ≤ r.1 + 4) := by
  unfold fn_X12_readsWhat
  refine zw_zb0 (sf_X12_goesWell v0_8 (by first | with_reducible assumption | exact ⟨by with_reducible assumption, by with_reducible assumption⟩ | first | lia | grind [zu_at, zu_atL, zvn])) (fun o_1 ho_1 => ?_)
  obtain ⟨ho_1_0, ho_1_1, ho_1_2, ho_1_3, ho_1_4, ho_1_5⟩ := ho_1
  refine zw_if (fun c1 => ?_) (fun c1 => ?_)
  · refine zw_zb0 (sf_X12_toldNumber v0_5 v0_6 v0_7 v0_8 v0_9 v0_11 f1 f2 f3 f4 (by first | with_reducible assumption | exact ⟨by with_reducible assumption, by with_reducible assumption⟩ | first | lia | grind [zu_at, zu_atL, zvn]) (by first | with_reducible assumption | exact ⟨by with_reducible assumption, by with_reducible assumption⟩ | first | lia | grind [zu_at, zu_atL, zvn]) (by first | with_reducible assumption | exact ⟨by with_reducible assumption, by with_reducible assumption⟩ | first | lia | grind [zu_at, zu_atL, zvn]) (by first | with_reducible assumption | exact ⟨by with_reducible assumption, by with_reducible assumption⟩ | first | lia | grind [zu_at, zu_atL, zvn]) (by first | with_reducible assumption | exact ⟨by with_reducible assumption, by with_reducible assumption⟩ | first | lia | grind [zu_at, zu_atL, zvn]) (by first | with_reducible assumption | exact ⟨by with_reducible assumption, by with_reducible assumption⟩ | first | lia | grind [zu_at, zu_atL, zvn]) (by first | with_reducible assumption | exact ⟨by with_reducible assumption, by with_reducible assumption⟩ | first | lia | grind [zu_at, zu_atL, zvn]) (by first | with_reducible assumption | exact ⟨by with_reducible assumption, by with_reducible assumption⟩ | first | lia | grind [zu_at, zu_atL, zvn])) (fun o_6 ho_6 => ?_)
    obtain ⟨o_6_0, o_6_1, o_6_2, o_6_3, o_6_4⟩ := o_6
    try dsimp only at ho_6
    obtain ⟨ho_6_0, ho_6_1, ho_6_2, ho_6_3, ho_6_4, ho_6_5, ho_6_6, ho_6_7, ho_6_8, ho_6_9⟩ := ho_6
    refine zw_some ?_
    first | exact True.intro | ((try dsimp only); (repeat' apply And.intro) <;> first | with_reducible assumption | first | lia | grind [zu_at, zu_atL, zvn])
  refine zw_zb0 (sf_X12_here v0_5 v0_6 f1 (by first | with_reducible assumption | exact ⟨by with_reducible assumption, by with_reducible assumption⟩ | first | lia | grind [zu_at, zu_atL, zvn]) (by first | with_reducible assumption | exact ⟨by with_reducible assumption, by with_reducible assumption⟩ | first | lia | grind [zu_at, zu_atL, zvn]) (by first | with_reducible assumption | exact ⟨by with_reducible assumption, by with_reducible assumption⟩ | first | lia | grind [zu_at, zu_atL, zvn])) (fun o_10 ho_10 => ?_)
  obtain ⟨o_10_0, o_10_1⟩ := o_10
  try dsimp only at ho_10
  obtain ⟨ho_10_0, ho_10_1, ho_10_2, ho_10_3, ho_10_4, ho_10_5, ho_10_6⟩ := ho_10
  refine zw_if (fun c2 => ?_) (fun c2 => ?_)
  · refine zw_zb0 (sf_X12_signed ((-1000000) : Int64) (1000000 : Int64) v0_5 o_10_1 v0_7 v0_8 v0_9 f1 (by first | with_reducible assumption | exact ⟨by with_reducible assumption, by with_reducible assumption⟩ | first | lia | grind [zu_at, zu_atL, zvn]) (by first | with_reducible assumption | exact ⟨by with_reducible assumption, by with_reducible assumption⟩ | first | lia | grind [zu_at, zu_atL, zvn]) (by first | with_reducible assumption | exact ⟨by with_reducible assumption, by with_reducible assumption⟩ | first | lia | grind [zu_at, zu_atL, zvn]) (by first | with_reducible assumption | exact ⟨by with_reducible assumption, by with_reducible assumption⟩ | first | lia | grind [zu_at, zu_atL, zvn]) (by first | with_reducible assumption | exact ⟨by with_reducible assumption, by with_reducible assumption⟩ | first | lia | grind [zu_at, zu_atL, zvn])) (fun o_15 ho_15 => ?_)
    obtain ⟨o_15_0, o_15_1, o_15_2, o_15_3, o_15_4⟩ := o_15
    try dsimp only at ho_15
    obtain ⟨ho_15_0, ho_15_1, ho_15_2, ho_15_3, ho_15_4, ho_15_5, ho_15_6, ho_15_7⟩ := ho_15
    refine zw_some ?_
    first | exact True.intro | ((try dsimp only); (repeat' apply And.intro) <;> first | with_reducible assumption | first | lia | grind [zu_at, zu_atL, zvn])
  refine zw_zb0 (sf_X12_isDigit o_10_1 v0_5 f1 (by first | with_reducible assumption | exact ⟨by with_reducible assumption, by with_reducible assumption⟩ | first | lia | grind [zu_at, zu_atL, zvn]) (by first | with_reducible assumption | exact ⟨by with_reducible assumption, by with_reducible assumption⟩ | first | lia | grind [zu_at, zu_atL, zvn])) (fun o_19 ho_19 => ?_)
  obtain ⟨ho_19_0, ho_19_1, ho_19_2, ho_19_3, ho_19_4, ho_19_5⟩ := ho_19
  refine zw_if (fun c3 => ?_) (fun c3 => ?_)
  · refine zw_zb0 (sf_X12_toldNumber v0_5 o_10_1 v0_7 v0_8 v0_9 v0_11 f1 f2 f3 f4 (by first | with_reducible assumption | exact ⟨by with_reducible assumption, by with_reducible assumption⟩ | first | lia | grind [zu_at, zu_atL, zvn]) (by first | with_reducible assumption | exact ⟨by with_reducible assumption, by with_reducible assumption⟩ | first | lia | grind [zu_at, zu_atL, zvn]) (by first | with_reducible assumption | exact ⟨by with_reducible assumption, by with_reducible assumption⟩ | first | lia | grind [zu_at, zu_atL, zvn]) (by first | with_reducible assumption | exact ⟨by with_reducible assumption, by with_reducible assumption⟩ | first | lia | grind [zu_at, zu_atL, zvn]) (by first | with_reducible assumption | exact ⟨by with_reducible assumption, by with_reducible assumption⟩ | first | lia | grind [zu_at, zu_atL, zvn]) (by first | with_reducible assumption | exact ⟨by with_reducible assumption, by with_reducible assumption⟩ | first | lia | grind [zu_at, zu_atL, zvn]) (by first | with_reducible assumption | exact ⟨by with_reducible assumption, by with_reducible assumption⟩ | first | lia | grind [zu_at, zu_atL, zvn]) (by first | with_reducible assumption | exact ⟨by with_reducible assumption, by with_reducible assumption⟩ | first | lia | grind [zu_at, zu_atL, zvn])) (fun o_24 ho_24 => ?_)
    obtain ⟨o_24_0, o_24_1, o_24_2, o_24_3, o_24_4⟩ := o_24
    try dsimp only at ho_24
    obtain ⟨ho_24_0, ho_24_1, ho_24_2, ho_24_3, ho_24_4, ho_24_5, ho_24_6, ho_24_7, ho_24_8, ho_24_9⟩ := ho_24
    refine zw_some ?_
    first | exact True.intro | ((try dsimp only); (repeat' apply And.intro) <;> first | with_reducible assumption | first | lia | grind [zu_at, zu_atL, zvn])
  refine zw_zb0 (sf_X12_signed ((-1000000) : Int64) (1000000 : Int64) v0_5 o_10_1 v0_7 v0_8 v0_9 f1 (by first | with_reducible assumption | exact ⟨by with_reducible assumption, by with_reducible assumption⟩ | first | lia | grind [zu_at, zu_atL, zvn]) (by first | with_reducible assumption | exact ⟨by with_reducible assumption, by with_reducible assumption⟩ | first | lia | grind [zu_at, zu_atL, zvn]) (by first | with_reducible assumption | exact ⟨by with_reducible assumption, by with_reducible assumption⟩ | first | lia | grind [zu_at, zu_atL, zvn]) (by first | with_reducible assumption | exact ⟨by with_reducible assumption, by with_reducible assumption⟩ | first | lia | grind [zu_at, zu_atL, zvn]) (by first | with_reducible assumption | exact ⟨by with_reducible assumption, by with_reducible assumption⟩ | first | lia | grind [zu_at, zu_atL, zvn])) (fun o_28 ho_28 => ?_)
  obtain ⟨o_28_0, o_28_1, o_28_2, o_28_3, o_28_4⟩ := o_28
  try dsimp only at ho_28
  obtain ⟨ho_28_0, ho_28_1, ho_28_2, ho_28_3, ho_28_4, ho_28_5, ho_28_6, ho_28_7⟩ := ho_28
  refine zw_some ?_
  first | exact True.intro | ((try dsimp only); (repeat' apply And.intro) <;> first | with_reducible assumption | first | lia | grind [zu_at, zu_atL, zvn])
set_option maxHeartbeats 4000000 in
set_option maxRecDepth 100000 in
theorem sf_X12_readsOp (v0_5 : Int32) (v0_6 : Int32) (v0_7 : Int32) (v0_8 : Int32) (v0_9 : Int32) (f1 : Nat → Int32) (f2 : Nat → Int32) (h_v0_5 : 0 ≤ v0_5 ∧ v0_5 ≤ 1200) (h_v0_6 : 0 ≤ v0_6 ∧ v0_6 ≤ 1200) (h_v0_7 : 0 ≤ v0_7 ∧ v0_7 ≤ 1200) (h_v0_8 : 0 ≤ v0_8 ∧ v0_8 ≤ 4) (h_f1 : (∀ i : Nat, 0 ≤ f1 i ∧ f1 i ≤ 255)) (hx_0 : (∀ k : Nat, k < 71 → f2 k = zTab k)) : zw (fn_X12_readsOp v0_5 v0_6 v0_7 v0_8 v0_9 f1 f2) (fun r => 0 ≤ r.2.1 ∧ r.2.1 ≤ 1200 ∧ 0 ≤ r.2.2.1 ∧ r.2.2.1 ≤ 1200 ∧ 0 ≤ r.2.2.2.1 ∧ r.2.2.2.1 ≤ 4 ∧ 0 ≤ r.1 ∧ r.1 ≤ 5 ∧ v0_6 ≤ r.2.1 ∧ v0_8 ≤ r.2.2.2.1) := by
  unfold fn_X12_readsOp
  refine zw_zb0 (sf_X12_goesWell v0_8 (by first | with_reducible assumption | exact ⟨by with_reducible assumption, by with_reducible assumption⟩ | first | lia | grind [zu_at, zu_atL, zvn])) (fun o_1 ho_1 => ?_)
  obtain ⟨ho_1_0, ho_1_1, ho_1_2, ho_1_3, ho_1_4, ho_1_5⟩ := ho_1
  refine zw_if (fun c1 => ?_) (fun c1 => ?_)
  · refine zw_some ?_
    first | exact True.intro | ((try dsimp only); (repeat' apply And.intro) <;> first | with_reducible assumption | first | lia | grind [zu_at, zu_atL, zvn])
  refine zw_zb0 (sf_X12_here v0_5 v0_6 f1 (by first | with_reducible assumption | exact ⟨by with_reducible assumption, by with_reducible assumption⟩ | first | lia | grind [zu_at, zu_atL, zvn]) (by first | with_reducible assumption | exact ⟨by with_reducible assumption, by with_reducible assumption⟩ | first | lia | grind [zu_at, zu_atL, zvn]) (by first | with_reducible assumption | exact ⟨by with_reducible assumption, by with_reducible assumption⟩ | first | lia | grind [zu_at, zu_atL, zvn])) (fun o_6 ho_6 => ?_)
  obtain ⟨o_6_0, o_6_1⟩ := o_6
  try dsimp only at ho_6
  obtain ⟨ho_6_0, ho_6_1, ho_6_2, ho_6_3, ho_6_4, ho_6_5, ho_6_6⟩ := ho_6
  refine zw_zj (fun _ => 1 ≤ v0_5 ∧ v0_6 ≤ 1199 ∧ 42 ≤ o_6_0 ∧ o_6_0 ≤ 45 ∧ o_6_1 ≤ 1199 ∧ v0_6 < v0_5 ∧ o_6_1 < v0_5) (fun s_10 Hj_10 => ?_) (fun j_10 hj_10 => ?_)
  · obtain ⟨Hj_10_0, Hj_10_1, Hj_10_2, Hj_10_3, Hj_10_4, Hj_10_5, Hj_10_6⟩ := Hj_10
    refine zw_if (fun c2 => ?_) (fun c2 => ?_)
    · refine zw_some ?_
      first | exact True.intro | ((try dsimp only); (repeat' apply And.intro) <;> first | with_reducible assumption | ((try clear hj_10); first | lia | grind [zu_at, zu_atL, zvn]))
    refine zw_if (fun c3 => ?_) (fun c3 => ?_)
    · refine zw_some ?_
      first | exact True.intro | ((try dsimp only); (repeat' apply And.intro) <;> first | with_reducible assumption | ((try clear hj_10); first | lia | grind [zu_at, zu_atL, zvn]))
    refine zw_some ?_
    first | exact True.intro | ((try dsimp only); (repeat' apply And.intro) <;> first | with_reducible assumption | ((try clear hj_10); first | lia | grind [zu_at, zu_atL, zvn]))
  refine zw_if (fun c4 => ?_) (fun c4 => ?_)
  · exact hj_10 _ (by first | exact True.intro | ((try dsimp only); (repeat' apply And.intro) <;> first | with_reducible assumption | ((try clear hj_10); first | lia | grind [zu_at, zu_atL, zvn])))
  refine zw_if (fun c5 => ?_) (fun c5 => ?_)
  · exact hj_10 _ (by first | exact True.intro | ((try dsimp only); (repeat' apply And.intro) <;> first | with_reducible assumption | ((try clear hj_10); first | lia | grind [zu_at, zu_atL, zvn])))
  refine zw_if (fun c6 => ?_) (fun c6 => ?_)
  · exact hj_10 _ (by first | exact True.intro | ((try dsimp only); (repeat' apply And.intro) <;> first | with_reducible assumption | ((try clear hj_10); first | lia | grind [zu_at, zu_atL, zvn])))
  refine zw_zb0 (sf_X12_word v0_5 o_6_1 v0_7 v0_8 v0_9 f1 (by first | with_reducible assumption | exact ⟨by with_reducible assumption, by with_reducible assumption⟩ | ((try clear hj_10); first | lia | grind [zu_at, zu_atL, zvn])) (by first | with_reducible assumption | exact ⟨by with_reducible assumption, by with_reducible assumption⟩ | ((try clear hj_10); first | lia | grind [zu_at, zu_atL, zvn])) (by first | with_reducible assumption | exact ⟨by with_reducible assumption, by with_reducible assumption⟩ | ((try clear hj_10); first | lia | grind [zu_at, zu_atL, zvn])) (by first | with_reducible assumption | exact ⟨by with_reducible assumption, by with_reducible assumption⟩ | ((try clear hj_10); first | lia | grind [zu_at, zu_atL, zvn])) (by first | with_reducible assumption | exact ⟨by with_reducible assumption, by with_reducible assumption⟩ | ((try clear hj_10); first | lia | grind [zu_at, zu_atL, zvn]))) (fun o_16 ho_16 => ?_)
  obtain ⟨o_16_0, o_16_1, o_16_2, o_16_3⟩ := o_16
  try dsimp only at ho_16
  obtain ⟨ho_16_0, ho_16_1, ho_16_2, ho_16_3, ho_16_4, ho_16_5, ho_16_6, ho_16_7⟩ := ho_16
  refine zw_zb0 (sf_X12_goesWell o_16_2 (by first | with_reducible assumption | exact ⟨by with_reducible assumption, by with_reducible assumption⟩ | ((try clear hj_10); first | lia | grind [zu_at, zu_atL, zvn]))) (fun o_20 ho_20 => ?_)
  obtain ⟨ho_20_0, ho_20_1, ho_20_2, ho_20_3, ho_20_4, ho_20_5⟩ := ho_20
  refine zw_zj (fun s_24 => (-1) ≤ s_24 ∧ s_24 ≤ 12) (fun s_24 Hj_24 => ?_) (fun j_24 hj_24 => ?_)
  · obtain ⟨Hj_24_0, Hj_24_1⟩ := Hj_24
    refine zw_zb0 (sf_X12_goesWell o_16_2 (by first | with_reducible assumption | exact ⟨by with_reducible assumption, by with_reducible assumption⟩ | ((try clear hj_10); (try clear hj_24); first | lia | grind [zu_at, zu_atL, zvn]))) (fun o_25 ho_25 => ?_)
    obtain ⟨ho_25_0, ho_25_1, ho_25_2, ho_25_3, ho_25_4, ho_25_5⟩ := ho_25
    refine zw_if (fun c7 => ?_) (fun c7 => ?_)
    · refine zw_if (fun c8 => ?_) (fun c8 => ?_)
      · refine zw_some ?_
        first | exact True.intro | ((try dsimp only); (repeat' apply And.intro) <;> first | with_reducible assumption | ((try clear hj_10); (try clear hj_24); first | lia | grind [zu_at, zu_atL, zvn]))
      refine zw_some ?_
      first | exact True.intro | ((try dsimp only); (repeat' apply And.intro) <;> first | with_reducible assumption | ((try clear hj_10); (try clear hj_24); first | lia | grind [zu_at, zu_atL, zvn]))
    refine zw_if (fun c9 => ?_) (fun c9 => ?_)
    · refine zw_if (fun c10 => ?_) (fun c10 => ?_)
      · refine zw_some ?_
        first | exact True.intro | ((try dsimp only); (repeat' apply And.intro) <;> first | with_reducible assumption | ((try clear hj_10); (try clear hj_24); first | lia | grind [zu_at, zu_atL, zvn]))
      refine zw_some ?_
      first | exact True.intro | ((try dsimp only); (repeat' apply And.intro) <;> first | with_reducible assumption | ((try clear hj_10); (try clear hj_24); first | lia | grind [zu_at, zu_atL, zvn]))
    refine zw_if (fun c11 => ?_) (fun c11 => ?_)
    · refine zw_if (fun c12 => ?_) (fun c12 => ?_)
      · refine zw_some ?_
        first | exact True.intro | ((try dsimp only); (repeat' apply And.intro) <;> first | with_reducible assumption | ((try clear hj_10); (try clear hj_24); first | lia | grind [zu_at, zu_atL, zvn]))
      refine zw_some ?_
      first | exact True.intro | ((try dsimp only); (repeat' apply And.intro) <;> first | with_reducible assumption | ((try clear hj_10); (try clear hj_24); first | lia | grind [zu_at, zu_atL, zvn]))
    refine zw_zb0 (sf_X12_faults 1 o_16_1 o_16_2 o_16_3 (by first | with_reducible assumption | exact ⟨by with_reducible assumption, by with_reducible assumption⟩ | ((try clear hj_10); (try clear hj_24); first | lia | grind [zu_at, zu_atL, zvn])) (by first | with_reducible assumption | exact ⟨by with_reducible assumption, by with_reducible assumption⟩ | ((try clear hj_10); (try clear hj_24); first | lia | grind [zu_at, zu_atL, zvn]))) (fun o_35 ho_35 => ?_)
    obtain ⟨o_35_0, o_35_1⟩ := o_35
    try dsimp only at ho_35
    obtain ⟨ho_35_0, ho_35_1, ho_35_2, ho_35_3⟩ := ho_35
    refine zw_if (fun c13 => ?_) (fun c13 => ?_)
    · refine zw_some ?_
      first | exact True.intro | ((try dsimp only); (repeat' apply And.intro) <;> first | with_reducible assumption | ((try clear hj_10); (try clear hj_24); first | lia | grind [zu_at, zu_atL, zvn]))
    refine zw_some ?_
    first | exact True.intro | ((try dsimp only); (repeat' apply And.intro) <;> first | with_reducible assumption | ((try clear hj_10); (try clear hj_24); first | lia | grind [zu_at, zu_atL, zvn]))
  refine zw_if (fun c14 => ?_) (fun c14 => ?_)
  · exact hj_24 _ (by first | exact True.intro | ((try dsimp only); (repeat' apply And.intro) <;> first | with_reducible assumption | ((try clear hj_10); (try clear hj_24); first | lia | grind [zu_at, zu_atL, zvn])))
  refine zw_zb0 (sf_X12_own o_16_0 o_16_1 f2 f1 (by first | with_reducible assumption | exact ⟨by with_reducible assumption, by with_reducible assumption⟩ | ((try clear hj_10); (try clear hj_24); first | lia | grind [zu_at, zu_atL, zvn])) (by first | with_reducible assumption | exact ⟨by with_reducible assumption, by with_reducible assumption⟩ | ((try clear hj_10); (try clear hj_24); first | lia | grind [zu_at, zu_atL, zvn])) (by first | with_reducible assumption | exact ⟨by with_reducible assumption, by with_reducible assumption⟩ | ((try clear hj_10); (try clear hj_24); first | lia | grind [zu_at, zu_atL, zvn])) (by first | with_reducible assumption | exact ⟨by with_reducible assumption, by with_reducible assumption⟩ | ((try clear hj_10); (try clear hj_24); first | lia | grind [zu_at, zu_atL, zvn]))) (fun o_41 ho_41 => ?_)
  obtain ⟨ho_41_0, ho_41_1⟩ := ho_41
  exact hj_24 _ (by first | exact True.intro | ((try dsimp only); (repeat' apply And.intro) <;> first | with_reducible assumption | ((try clear hj_10); (try clear hj_24); first | lia | grind [zu_at, zu_atL, zvn])))
set_option maxHeartbeats 4000000 in
set_option maxRecDepth 100000 in
theorem sf_X12_readsLet (v0_5 : Int32) (v0_6 : Int32) (v0_7 : Int32) (v0_8 : Int32) (v0_9 : Int32) (v0_11 : Int32) (f1 : Nat → Int32) (f2 : Nat → Int32) (f3 : Nat → Int32) (f4 : Nat → Int32) (f5 : Nat → Int32) (f6 : Nat → Int32) (f7 : Nat → Int32) (f8 : Nat → Int32) (f9 : Nat → Int32) (f10 : Nat → Int32) (f11 : Nat → Int32) (f12 : Nat → Int32) (f13 : Nat → Int64) (f14 : Nat → Int64) (h_v0_5 : 0 ≤ v0_5 ∧ v0_5 ≤ 1200) (h_v0_6 : 0 ≤ v0_6 ∧ v0_6 ≤ 1200) (h_v0_7 : 0 ≤ v0_7 ∧ v0_7 ≤ 1200) (h_v0_8 : 0 ≤ v0_8 ∧ v0_8 ≤ 4) (h_v0_11 : 1 ≤ v0_11 ∧ v0_11 ≤ 1) (h_f1 : (∀ i : Nat, 0 ≤ f1 i ∧ f1 i ≤ 255)) (h_f3 : (∀ i : Nat, 0 ≤ f3 i ∧ f3 i ≤ 4)) (h_f5 : (∀ i : Nat, 0 ≤ f5 i ∧ f5 i ≤ 14)) (h_f8 : (∀ i : Nat, (-1) ≤ f8 i ∧ f8 i ≤ 13)) (h_f9 : (∀ i : Nat, (-1) ≤ f9 i ∧ f9 i ≤ 13)) (h_f10 : (∀ i : Nat, (-1) ≤ f10 i ∧ f10 i ≤ 3)) (h_f12 : (∀ i : Nat, 0 ≤ f12 i ∧ f12 i ≤ 13)) (hr_0 : (f5 v0_11.toNatClampNeg) ≤ 13) (hx_0 : (∀ k : Nat, k < 71 → f2 k = zTab k)) : zw (fn_X12_readsLet v0_5 v0_6 v0_7 v0_8 v0_9 v0_11 f1 f2 f3 f4 f5 f6 f7 f8 f9 f10 f11 f12 f13 f14) (fun r => 0 ≤ r.2.1 ∧ r.2.1 ≤ 1200 ∧ 0 ≤ r.2.2.1 ∧ r.2.2.1 ≤ 1200 ∧ 0 ≤ r.2.2.2.1 ∧ r.2.2.2.1 ≤ 4 ∧ (∀ i : Nat, 0 ≤ r.2.2.2.2.2.1 i ∧ r.2.2.2.2.2.1 i ≤ 14) ∧ (∀ i : Nat, (-1) ≤ r.2.2.2.2.2.2.2.2.1 i ∧ r.2.2.2.2.2.2.2.2.1 i ≤ 13) ∧ (∀ i : Nat, (-1) ≤ r.2.2.2.2.2.2.2.2.2.1 i ∧ r.2.2.2.2.2.2.2.2.2.1 i ≤ 13) ∧ (∀ i : Nat, (-1) ≤ r.2.2.2.2.2.2.2.2.2.2.1 i ∧ r.2.2.2.2.2.2.2.2.2.2.1 i ≤ 3) ∧ (∀ i : Nat, 0 ≤ r.2.2.2.2.2.2.2.2.2.2.2.2.1 i ∧ r.2.2.2.2.2.2.2.2.2.2.2.2.1 i ≤ 13) ∧ v0_6 ≤ r.2.1 ∧ v0_8 ≤ r.2.2.2.1 ∧ (∀ i : Nat, r.2.2.2.2.2.2.2.2.2.2.1 i = f10 i ∨ r.2.2.2.2.2.2.2.2.2.2.1 i = (-1)) ∧ (∀ k : Int32, 0 ≤ k → k < r.2.2.2.2.2.1 v0_11.toNatClampNeg → k < f5 v0_11.toNatClampNeg ∨ r.2.2.2.2.2.2.2.2.2.2.1 (14 + k).toNatClampNeg = (-1)) ∧ r.2.2.2.2.2.1 (0 : Int32).toNatClampNeg = f5 (0 : Int32).toNatClampNeg) := by
  unfold fn_X12_readsLet
  refine zw_zb0 (sf_X12_newName v0_5 v0_6 v0_7 v0_8 v0_9 v0_11 f1 f2 f3 f4 f5 f6 (by first | with_reducible assumption | exact ⟨by with_reducible assumption, by with_reducible assumption⟩ | first | lia | grind [zu_at, zu_atL, zvn]) (by first | with_reducible assumption | exact ⟨by with_reducible assumption, by with_reducible assumption⟩ | first | lia | grind [zu_at, zu_atL, zvn]) (by first | with_reducible assumption | exact ⟨by with_reducible assumption, by with_reducible assumption⟩ | first | lia | grind [zu_at, zu_atL, zvn]) (by first | with_reducible assumption | exact ⟨by with_reducible assumption, by with_reducible assumption⟩ | first | lia | grind [zu_at, zu_atL, zvn]) (by first | with_reducible assumption | exact ⟨by with_reducible assumption, by with_reducible assumption⟩ | first | lia | grind [zu_at, zu_atL, zvn]) (by first | with_reducible assumption | exact ⟨by with_reducible assumption, by with_reducible assumption⟩ | first | lia | grind [zu_at, zu_atL, zvn]) (by first | with_reducible assumption | exact ⟨by with_reducible assumption, by with_reducible assumption⟩ | first | lia | grind [zu_at, zu_atL, zvn]) (by first | with_reducible assumption | exact ⟨by with_reducible assumption, by with_reducible assumption⟩ | first | lia | grind [zu_at, zu_atL, zvn]) (by first | with_reducible assumption | exact ⟨by with_reducible assumption, by with_reducible assumption⟩ | first | lia | grind [zu_at, zu_atL, zvn])) (fun o_1 ho_1 => ?_)
  obtain ⟨o_1_0, o_1_1, o_1_2, o_1_3, o_1_4⟩ := o_1
  try dsimp only at ho_1
  obtain ⟨ho_1_0, ho_1_1, ho_1_2, ho_1_3, ho_1_4, ho_1_5, ho_1_6, ho_1_7⟩ := ho_1
  refine zw_zb0 (sf_X12_mark 61 v0_5 o_1_1 o_1_3 o_1_4 f1 (by first | with_reducible assumption | exact ⟨by with_reducible assumption, by with_reducible assumption⟩ | first | lia | grind [zu_at, zu_atL, zvn]) (by first | with_reducible assumption | exact ⟨by with_reducible assumption, by with_reducible assumption⟩ | first | lia | grind [zu_at, zu_atL, zvn]) (by first | with_reducible assumption | exact ⟨by with_reducible assumption, by with_reducible assumption⟩ | first | lia | grind [zu_at, zu_atL, zvn]) (by first | with_reducible assumption | exact ⟨by with_reducible assumption, by with_reducible assumption⟩ | first | lia | grind [zu_at, zu_atL, zvn]) (by first | with_reducible assumption | exact ⟨by with_reducible assumption, by with_reducible assumption⟩ | first | lia | grind [zu_at, zu_atL, zvn])) (fun o_5 ho_5 => ?_)
  obtain ⟨o_5_0, o_5_1, o_5_2⟩ := o_5
  try dsimp only at ho_5
  obtain ⟨ho_5_0, ho_5_1, ho_5_2, ho_5_3, ho_5_4, ho_5_5⟩ := ho_5
  refine zw_zb0 (sf_X12_readsWhat v0_5 o_5_0 o_1_2 o_5_1 o_5_2 v0_11 f1 f2 f5 f6 (by first | with_reducible assumption | exact ⟨by with_reducible assumption, by with_reducible assumption⟩ | first | lia | grind [zu_at, zu_atL, zvn]) (by first | with_reducible assumption | exact ⟨by with_reducible assumption, by with_reducible assumption⟩ | first | lia | grind [zu_at, zu_atL, zvn]) (by first | with_reducible assumption | exact ⟨by with_reducible assumption, by with_reducible assumption⟩ | first | lia | grind [zu_at, zu_atL, zvn]) (by first | with_reducible assumption | exact ⟨by with_reducible assumption, by with_reducible assumption⟩ | first | lia | grind [zu_at, zu_atL, zvn]) (by first | with_reducible assumption | exact ⟨by with_reducible assumption, by with_reducible assumption⟩ | first | lia | grind [zu_at, zu_atL, zvn]) (by first | with_reducible assumption | exact ⟨by with_reducible assumption, by with_reducible assumption⟩ | first | lia | grind [zu_at, zu_atL, zvn]) (by first | with_reducible assumption | exact ⟨by with_reducible assumption, by with_reducible assumption⟩ | first | lia | grind [zu_at, zu_atL, zvn]) (by first | with_reducible assumption | exact ⟨by with_reducible assumption, by with_reducible assumption⟩ | first | lia | grind [zu_at, zu_atL, zvn])) (fun o_9 ho_9 => ?_)
  obtain ⟨o_9_0, o_9_1, o_9_2, o_9_3, o_9_4, o_9_5⟩ := o_9
  try dsimp only at ho_9
  obtain ⟨ho_9_0, ho_9_1, ho_9_2, ho_9_3, ho_9_4, ho_9_5, ho_9_6, ho_9_7, ho_9_8, ho_9_9, ho_9_10⟩ := ho_9
  refine zw_zb0 (sf_X12_readsOp v0_5 o_9_2 o_9_3 o_9_4 o_9_5 f1 f2 (by first | with_reducible assumption | exact ⟨by with_reducible assumption, by with_reducible assumption⟩ | first | lia | grind [zu_at, zu_atL, zvn]) (by first | with_reducible assumption | exact ⟨by with_reducible assumption, by with_reducible assumption⟩ | first | lia | grind [zu_at, zu_atL, zvn]) (by first | with_reducible assumption | exact ⟨by with_reducible assumption, by with_reducible assumption⟩ | first | lia | grind [zu_at, zu_atL, zvn]) (by first | with_reducible assumption | exact ⟨by with_reducible assumption, by with_reducible assumption⟩ | first | lia | grind [zu_at, zu_atL, zvn]) (by first | with_reducible assumption | exact ⟨by with_reducible assumption, by with_reducible assumption⟩ | first | lia | grind [zu_at, zu_atL, zvn]) (by first | with_reducible assumption | exact ⟨by with_reducible assumption, by with_reducible assumption⟩ | first | lia | grind [zu_at, zu_atL, zvn])) (fun o_13 ho_13 => ?_)
  obtain ⟨o_13_0, o_13_1, o_13_2, o_13_3, o_13_4⟩ := o_13
  try dsimp only at ho_13
  obtain ⟨ho_13_0, ho_13_1, ho_13_2, ho_13_3, ho_13_4, ho_13_5, ho_13_6, ho_13_7, ho_13_8, ho_13_9⟩ := ho_13
  refine zw_zb0 (sf_X12_readsWhat v0_5 o_13_1 o_13_2 o_13_3 o_13_4 v0_11 f1 f2 f5 f6 (by first | with_reducible assumption | exact ⟨by with_reducible assumption, by with_reducible assumption⟩ | first | lia | grind [zu_at, zu_atL, zvn]) (by first | with_reducible assumption | exact ⟨by with_reducible assumption, by with_reducible assumption⟩ | first | lia | grind [zu_at, zu_atL, zvn]) (by first | with_reducible assumption | exact ⟨by with_reducible assumption, by with_reducible assumption⟩ | first | lia | grind [zu_at, zu_atL, zvn]) (by first | with_reducible assumption | exact ⟨by with_reducible assumption, by with_reducible assumption⟩ | first | lia | grind [zu_at, zu_atL, zvn]) (by first | with_reducible assumption | exact ⟨by with_reducible assumption, by with_reducible assumption⟩ | first | lia | grind [zu_at, zu_atL, zvn]) (by first | with_reducible assumption | exact ⟨by with_reducible assumption, by with_reducible assumption⟩ | first | lia | grind [zu_at, zu_atL, zvn]) (by first | with_reducible assumption | exact ⟨by with_reducible assumption, by with_reducible assumption⟩ | first | lia | grind [zu_at, zu_atL, zvn]) (by first | with_reducible assumption | exact ⟨by with_reducible assumption, by with_reducible assumption⟩ | first | lia | grind [zu_at, zu_atL, zvn])) (fun o_17 ho_17 => ?_)
  obtain ⟨o_17_0, o_17_1, o_17_2, o_17_3, o_17_4, o_17_5⟩ := o_17
  try dsimp only at ho_17
  obtain ⟨ho_17_0, ho_17_1, ho_17_2, ho_17_3, ho_17_4, ho_17_5, ho_17_6, ho_17_7, ho_17_8, ho_17_9, ho_17_10⟩ := ho_17
  refine zw_zb0 (sf_X12_goesWell o_17_4 (by first | with_reducible assumption | exact ⟨by with_reducible assumption, by with_reducible assumption⟩ | first | lia | grind [zu_at, zu_atL, zvn])) (fun o_21 ho_21 => ?_)
  obtain ⟨ho_21_0, ho_21_1, ho_21_2, ho_21_3, ho_21_4, ho_21_5⟩ := ho_21
  refine zw_if (fun c1 => ?_) (fun c1 => ?_)
  · refine zw_some ?_
    first | exact True.intro | ((try dsimp only); (repeat' apply And.intro) <;> first | with_reducible assumption | with_reducible exact fun _ => Or.inl rfl | with_reducible exact fun _ _ _ => rfl | with_reducible exact fun _ _ h => Or.inl h | with_reducible rfl | ((with_reducible refine zU7 ?_ ⟨?_, ?_⟩) <;> first | with_reducible assumption | lia) | ((with_reducible refine zU1 ?_) <;> grind [z32_in]) | with_reducible exact zU1m | ((with_reducible refine zU4 ?_) <;> lia) | ((with_reducible refine zU2 (h_f3 _) ?_ ?_) <;> first | lia | grind [z32_in]) | ((with_reducible refine zU3 ?_) <;> lia) | ((with_reducible refine zU5 (h_f5 _) ?_) <;> with_reducible assumption) | ((with_reducible refine zU6 ?_) <;> lia) | ((with_reducible refine zU8 ⟨?_, ?_⟩) <;> first | lia | grind) | ((with_reducible refine zO1 ?_) <;> with_reducible assumption) | ((with_reducible refine zO2 ?_) <;> with_reducible assumption) | first | lia | grind [zu_at, zu_atL, zvn])
  refine zw_zb0 (sf_X12_newNumber o_1_0 o_13_0 v0_11 f5 f6 f7 f8 f9 f10 f11 f12 (by first | with_reducible assumption | exact ⟨by with_reducible assumption, by with_reducible assumption⟩ | first | lia | grind [zu_at, zu_atL, zvn]) (by first | with_reducible assumption | exact ⟨by with_reducible assumption, by with_reducible assumption⟩ | first | lia | grind [zu_at, zu_atL, zvn]) (by first | with_reducible assumption | exact ⟨by with_reducible assumption, by with_reducible assumption⟩ | first | lia | grind [zu_at, zu_atL, zvn]) (by first | with_reducible assumption | exact ⟨by with_reducible assumption, by with_reducible assumption⟩ | first | lia | grind [zu_at, zu_atL, zvn]) (by first | with_reducible assumption | exact ⟨by with_reducible assumption, by with_reducible assumption⟩ | first | lia | grind [zu_at, zu_atL, zvn]) (by first | with_reducible assumption | exact ⟨by with_reducible assumption, by with_reducible assumption⟩ | first | lia | grind [zu_at, zu_atL, zvn]) (by first | with_reducible assumption | exact ⟨by with_reducible assumption, by with_reducible assumption⟩ | first | lia | grind [zu_at, zu_atL, zvn])) (fun o_26 ho_26 => ?_)
  obtain ⟨o_26_0, o_26_1, o_26_2, o_26_3, o_26_4, o_26_5, o_26_6⟩ := o_26
  try dsimp only at ho_26
  obtain ⟨ho_26_0, ho_26_1, ho_26_2, ho_26_3, ho_26_4, ho_26_5⟩ := ho_26
  refine zw_zg32 2 (by decide) (by (try dsimp only); first | lia | grind [zu_at, zu_atL, zvn]) ?_
  refine zw_zb0 (sf_X12_n (f5 v0_11.toNatClampNeg) v0_11 (by first | with_reducible assumption | exact ⟨by with_reducible assumption, by with_reducible assumption⟩ | first | lia | grind [zu_at, zu_atL, zvn]) (by first | with_reducible assumption | exact ⟨by with_reducible assumption, by with_reducible assumption⟩ | first | lia | grind [zu_at, zu_atL, zvn])) (fun o_31 ho_31 => ?_)
  obtain ⟨ho_31_0, ho_31_1, ho_31_2, ho_31_3⟩ := ho_31
  refine zw_zg32 28 (by decide) (by (try dsimp only); first | lia | grind [zu_at, zu_atL, zvn]) ?_
  refine zw_some ?_
  first | exact True.intro | ((try dsimp only); (repeat' apply And.intro) <;> first | with_reducible assumption | with_reducible exact fun _ => Or.inl rfl | with_reducible exact fun _ _ _ => rfl | with_reducible exact fun _ _ h => Or.inl h | with_reducible rfl | ((with_reducible refine zU7 ?_ ⟨?_, ?_⟩) <;> first | with_reducible assumption | lia) | ((with_reducible refine zU1 ?_) <;> grind [z32_in]) | with_reducible exact zU1m | ((with_reducible refine zU4 ?_) <;> lia) | ((with_reducible refine zU2 (h_f3 _) ?_ ?_) <;> first | lia | grind [z32_in]) | ((with_reducible refine zU3 ?_) <;> lia) | ((with_reducible refine zU5 (h_f5 _) ?_) <;> with_reducible assumption) | ((with_reducible refine zU6 ?_) <;> lia) | ((with_reducible refine zU8 ⟨?_, ?_⟩) <;> first | lia | grind) | ((with_reducible refine zO1 ?_) <;> with_reducible assumption) | ((with_reducible refine zO2 ?_) <;> with_reducible assumption) | first | lia | grind [zu_at, zu_atL, zvn])
set_option maxHeartbeats 4000000 in
set_option maxRecDepth 100000 in
theorem sf_X12_readsFixed (v0_5 : Int32) (v0_6 : Int32) (v0_7 : Int32) (v0_8 : Int32) (v0_9 : Int32) (v0_11 : Int32) (f1 : Nat → Int32) (f2 : Nat → Int32) (f3 : Nat → Int32) (f4 : Nat → Int32) (f5 : Nat → Int32) (f6 : Nat → Int32) (f7 : Nat → Int32) (h_v0_5 : 0 ≤ v0_5 ∧ v0_5 ≤ 1200) (h_v0_6 : 0 ≤ v0_6 ∧ v0_6 ≤ 1200) (h_v0_7 : 0 ≤ v0_7 ∧ v0_7 ≤ 1200) (h_v0_8 : 0 ≤ v0_8 ∧ v0_8 ≤ 4) (h_v0_11 : 1 ≤ v0_11 ∧ v0_11 ≤ 1) (h_f1 : (∀ i : Nat, 0 ≤ f1 i ∧ f1 i ≤ 255)) (h_f3 : (∀ i : Nat, 0 ≤ f3 i ∧ f3 i ≤ 14)) (h_f5 : (∀ i : Nat, 0 ≤ f5 i ∧ f5 i ≤ 4)) (h_f7 : (∀ i : Nat, (-1) ≤ f7 i ∧ f7 i ≤ 3)) (hx_0 : (∀ k : Nat, k < 71 → f2 k = zTab k)) : zw (fn_X12_readsFixed v0_5 v0_6 v0_7 v0_8 v0_9 v0_11 f1 f2 f3 f4 f5 f6 f7) (fun r => 0 ≤ r.1 ∧ r.1 ≤ 1200 ∧ 0 ≤ r.2.1 ∧ r.2.1 ≤ 1200 ∧ 0 ≤ r.2.2.1 ∧ r.2.2.1 ≤ 4 ∧ (∀ i : Nat, (-1) ≤ r.2.2.2.2 i ∧ r.2.2.2.2 i ≤ 3) ∧ v0_6 ≤ r.1 ∧ v0_8 ≤ r.2.2.1 ∧ (∀ i : Nat, r.2.2.2.2 i = f7 i ∨ 0 ≤ r.2.2.2.2 i ∧ r.2.2.2.2 i < f5 v0_11.toNatClampNeg)) := by
  unfold fn_X12_readsFixed
  refine zw_zb0 (sf_X12_toldNumber v0_5 v0_6 v0_7 v0_8 v0_9 v0_11 f1 f2 f3 f4 (by first | with_reducible assumption | exact ⟨by with_reducible assumption, by with_reducible assumption⟩ | first | lia | grind [zu_at, zu_atL, zvn]) (by first | with_reducible assumption | exact ⟨by with_reducible assumption, by with_reducible assumption⟩ | first | lia | grind [zu_at, zu_atL, zvn]) (by first | with_reducible assumption | exact ⟨by with_reducible assumption, by with_reducible assumption⟩ | first | lia | grind [zu_at, zu_atL, zvn]) (by first | with_reducible assumption | exact ⟨by with_reducible assumption, by with_reducible assumption⟩ | first | lia | grind [zu_at, zu_atL, zvn]) (by first | with_reducible assumption | exact ⟨by with_reducible assumption, by with_reducible assumption⟩ | first | lia | grind [zu_at, zu_atL, zvn]) (by first | with_reducible assumption | exact ⟨by with_reducible assumption, by with_reducible assumption⟩ | first | lia | grind [zu_at, zu_atL, zvn]) (by first | with_reducible assumption | exact ⟨by with_reducible assumption, by with_reducible assumption⟩ | first | lia | grind [zu_at, zu_atL, zvn]) (by first | with_reducible assumption | exact ⟨by with_reducible assumption, by with_reducible assumption⟩ | first | lia | grind [zu_at, zu_atL, zvn])) (fun o_1 ho_1 => ?_)
  obtain ⟨o_1_0, o_1_1, o_1_2, o_1_3, o_1_4⟩ := o_1
  try dsimp only at ho_1
  obtain ⟨ho_1_0, ho_1_1, ho_1_2, ho_1_3, ho_1_4, ho_1_5, ho_1_6, ho_1_7, ho_1_8, ho_1_9⟩ := ho_1
  refine zw_zb0 (sf_X12_name v0_5 o_1_1 o_1_2 o_1_3 o_1_4 f1 f2 (by first | with_reducible assumption | exact ⟨by with_reducible assumption, by with_reducible assumption⟩ | first | lia | grind [zu_at, zu_atL, zvn]) (by first | with_reducible assumption | exact ⟨by with_reducible assumption, by with_reducible assumption⟩ | first | lia | grind [zu_at, zu_atL, zvn]) (by first | with_reducible assumption | exact ⟨by with_reducible assumption, by with_reducible assumption⟩ | first | lia | grind [zu_at, zu_atL, zvn]) (by first | with_reducible assumption | exact ⟨by with_reducible assumption, by with_reducible assumption⟩ | first | lia | grind [zu_at, zu_atL, zvn]) (by first | with_reducible assumption | exact ⟨by with_reducible assumption, by with_reducible assumption⟩ | first | lia | grind [zu_at, zu_atL, zvn]) (by first | with_reducible assumption | exact ⟨by with_reducible assumption, by with_reducible assumption⟩ | first | lia | grind [zu_at, zu_atL, zvn])) (fun o_5 ho_5 => ?_)
  obtain ⟨o_5_0, o_5_1, o_5_2, o_5_3, o_5_4⟩ := o_5
  try dsimp only at ho_5
  obtain ⟨ho_5_0, ho_5_1, ho_5_2, ho_5_3, ho_5_4, ho_5_5, ho_5_6, ho_5_7⟩ := ho_5
  refine zw_zb0 (sf_X12_goesWell o_5_3 (by first | with_reducible assumption | exact ⟨by with_reducible assumption, by with_reducible assumption⟩ | first | lia | grind [zu_at, zu_atL, zvn])) (fun o_9 ho_9 => ?_)
  obtain ⟨ho_9_0, ho_9_1, ho_9_2, ho_9_3, ho_9_4, ho_9_5⟩ := ho_9
  refine zw_zj (fun s_13 => (o_5_3 = 0 → s_13 = (-1) ∨ 0 ≤ s_13 ∧ s_13 < f5 v0_11.toNatClampNeg) ∧ (-1) ≤ s_13 ∧ s_13 ≤ 3 ∧ s_13 ≤ o_9 + 2 ∧ v0_8 ≤ s_13 + 4 ∧ o_1_3 ≤ s_13 + 4 ∧ o_5_3 ≤ s_13 + 4) (fun s_13 Hj_13 => ?_) (fun j_13 hj_13 => ?_)
  · obtain ⟨Hj_13_0, Hj_13_1, Hj_13_2, Hj_13_3, Hj_13_4, Hj_13_5, Hj_13_6⟩ := Hj_13
    refine zw_zb0 (sf_X12_goesWell o_5_3 (by first | with_reducible assumption | exact ⟨by with_reducible assumption, by with_reducible assumption⟩ | ((try clear hj_13); first | lia | grind [zu_at, zu_atL, zvn]))) (fun o_14 ho_14 => ?_)
    obtain ⟨ho_14_0, ho_14_1, ho_14_2, ho_14_3, ho_14_4, ho_14_5⟩ := ho_14
    refine zw_zj (fun s_18 => (s_18.1 = 0 → 0 ≤ s_13 ∧ s_13 < f5 v0_11.toNatClampNeg) ∧ 0 ≤ s_18.1 ∧ s_18.1 ≤ 4 ∧ v0_8 ≤ s_18.1 ∧ o_1_3 ≤ s_18.1 ∧ o_5_3 ≤ s_18.1) (fun s_18 Hj_18 => ?_) (fun j_18 hj_18 => ?_)
    · obtain ⟨s_18_0, s_18_1⟩ := s_18
      try dsimp only at Hj_18
      obtain ⟨Hj_18_0, Hj_18_1, Hj_18_2, Hj_18_3, Hj_18_4, Hj_18_5⟩ := Hj_18
      refine zw_zb0 (sf_X12_goesWell s_18_0 (by first | with_reducible assumption | exact ⟨by with_reducible assumption, by with_reducible assumption⟩ | ((try clear hj_13); (try clear hj_18); first | lia | grind [zu_at, zu_atL, zvn]))) (fun o_19 ho_19 => ?_)
      obtain ⟨ho_19_0, ho_19_1, ho_19_2, ho_19_3, ho_19_4, ho_19_5⟩ := ho_19
      refine zw_if (fun c1 => ?_) (fun c1 => ?_)
      · refine zw_some ?_
        first | exact True.intro | ((try dsimp only); (repeat' apply And.intro) <;> first | with_reducible assumption | with_reducible exact fun _ => Or.inl rfl | with_reducible exact fun _ _ _ => rfl | with_reducible exact fun _ _ h => Or.inl h | with_reducible rfl | ((with_reducible refine zU7 ?_ ⟨?_, ?_⟩) <;> first | with_reducible assumption | lia) | ((with_reducible refine zU1 ?_) <;> grind [z32_in]) | with_reducible exact zU1m | ((with_reducible refine zU4 ?_) <;> ((try clear hj_13); (try clear hj_18); lia)) | ((with_reducible refine zU2 (h_f3 _) ?_ ?_) <;> first | lia | grind [z32_in]) | ((with_reducible refine zU3 ?_) <;> ((try clear hj_13); (try clear hj_18); lia)) | ((with_reducible refine zU5 (h_f5 _) ?_) <;> with_reducible assumption) | ((with_reducible refine zU6 ?_) <;> ((try clear hj_13); (try clear hj_18); lia)) | ((with_reducible refine zU8 ⟨?_, ?_⟩) <;> ((try clear hj_13); (try clear hj_18); lia)) | ((with_reducible refine zO1 ?_) <;> with_reducible assumption) | ((with_reducible refine zO2 ?_) <;> with_reducible assumption) | ((with_reducible refine zU8 ⟨?_, ?_⟩) <;> grind) | ((try clear hj_13); (try clear hj_18); first | lia | grind [zu_at, zu_atL, zvn]))
      refine zw_zb0 (sf_X12_n o_1_0 v0_11 (by first | with_reducible assumption | exact ⟨by with_reducible assumption, by with_reducible assumption⟩ | ((try clear hj_13); (try clear hj_18); first | lia | grind [zu_at, zu_atL, zvn])) (by first | with_reducible assumption | exact ⟨by with_reducible assumption, by with_reducible assumption⟩ | ((try clear hj_13); (try clear hj_18); first | lia | grind [zu_at, zu_atL, zvn]))) (fun o_24 ho_24 => ?_)
      obtain ⟨ho_24_0, ho_24_1, ho_24_2, ho_24_3⟩ := ho_24
      refine zw_zg32 28 (by decide) (by (try dsimp only); ((try clear hj_13); (try clear hj_18); first | lia | grind [zu_at, zu_atL, zvn])) ?_
      refine zw_some ?_
      first | exact True.intro | ((try dsimp only); (repeat' apply And.intro) <;> first | with_reducible assumption | with_reducible exact fun _ => Or.inl rfl | with_reducible exact fun _ _ _ => rfl | with_reducible exact fun _ _ h => Or.inl h | with_reducible rfl | ((with_reducible refine zU7 ?_ ⟨?_, ?_⟩) <;> first | with_reducible assumption | lia) | ((with_reducible refine zU1 ?_) <;> grind [z32_in]) | with_reducible exact zU1m | ((with_reducible refine zU4 ?_) <;> ((try clear hj_13); (try clear hj_18); lia)) | ((with_reducible refine zU2 (h_f3 _) ?_ ?_) <;> first | lia | grind [z32_in]) | ((with_reducible refine zU3 ?_) <;> ((try clear hj_13); (try clear hj_18); lia)) | ((with_reducible refine zU5 (h_f5 _) ?_) <;> with_reducible assumption) | ((with_reducible refine zU6 ?_) <;> ((try clear hj_13); (try clear hj_18); lia)) | ((with_reducible refine zU8 ⟨?_, ?_⟩) <;> ((try clear hj_13); (try clear hj_18); lia)) | ((with_reducible refine zO1 ?_) <;> with_reducible assumption) | ((with_reducible refine zO2 ?_) <;> with_reducible assumption) | ((with_reducible refine zU8 ⟨?_, ?_⟩) <;> grind) | ((try clear hj_13); (try clear hj_18); first | lia | grind [zu_at, zu_atL, zvn]))
    refine zw_if (fun c2 => ?_) (fun c2 => ?_)
    · exact hj_18 _ (by first | exact True.intro | ((try dsimp only); (repeat' apply And.intro) <;> first | with_reducible assumption | with_reducible exact fun _ => Or.inl rfl | with_reducible exact fun _ _ _ => rfl | with_reducible exact fun _ _ h => Or.inl h | with_reducible rfl | ((with_reducible refine zU7 ?_ ⟨?_, ?_⟩) <;> first | with_reducible assumption | lia) | ((with_reducible refine zU1 ?_) <;> grind [z32_in]) | with_reducible exact zU1m | ((with_reducible refine zU4 ?_) <;> ((try clear hj_13); (try clear hj_18); lia)) | ((with_reducible refine zU2 (h_f3 _) ?_ ?_) <;> first | lia | grind [z32_in]) | ((with_reducible refine zU3 ?_) <;> ((try clear hj_13); (try clear hj_18); lia)) | ((with_reducible refine zU5 (h_f5 _) ?_) <;> with_reducible assumption) | ((with_reducible refine zU6 ?_) <;> ((try clear hj_13); (try clear hj_18); lia)) | ((with_reducible refine zU8 ⟨?_, ?_⟩) <;> ((try clear hj_13); (try clear hj_18); lia)) | ((with_reducible refine zO1 ?_) <;> with_reducible assumption) | ((with_reducible refine zO2 ?_) <;> with_reducible assumption) | ((with_reducible refine zU8 ⟨?_, ?_⟩) <;> grind) | ((try clear hj_13); (try clear hj_18); first | lia | grind [zu_at, zu_atL, zvn])))
    refine zw_if (fun c3 => ?_) (fun c3 => ?_)
    · refine zw_zb0 (sf_X12_faults 3 o_5_2 o_5_3 o_5_4 (by first | with_reducible assumption | exact ⟨by with_reducible assumption, by with_reducible assumption⟩ | ((try clear hj_13); (try clear hj_18); first | lia | grind [zu_at, zu_atL, zvn])) (by first | with_reducible assumption | exact ⟨by with_reducible assumption, by with_reducible assumption⟩ | ((try clear hj_13); (try clear hj_18); first | lia | grind [zu_at, zu_atL, zvn]))) (fun o_31 ho_31 => ?_)
      obtain ⟨o_31_0, o_31_1⟩ := o_31
      try dsimp only at ho_31
      obtain ⟨ho_31_0, ho_31_1, ho_31_2, ho_31_3⟩ := ho_31
      exact hj_18 _ (by first | exact True.intro | ((try dsimp only); (repeat' apply And.intro) <;> first | with_reducible assumption | with_reducible exact fun _ => Or.inl rfl | with_reducible exact fun _ _ _ => rfl | with_reducible exact fun _ _ h => Or.inl h | with_reducible rfl | ((with_reducible refine zU7 ?_ ⟨?_, ?_⟩) <;> first | with_reducible assumption | lia) | ((with_reducible refine zU1 ?_) <;> grind [z32_in]) | with_reducible exact zU1m | ((with_reducible refine zU4 ?_) <;> ((try clear hj_13); (try clear hj_18); lia)) | ((with_reducible refine zU2 (h_f3 _) ?_ ?_) <;> first | lia | grind [z32_in]) | ((with_reducible refine zU3 ?_) <;> ((try clear hj_13); (try clear hj_18); lia)) | ((with_reducible refine zU5 (h_f5 _) ?_) <;> with_reducible assumption) | ((with_reducible refine zU6 ?_) <;> ((try clear hj_13); (try clear hj_18); lia)) | ((with_reducible refine zU8 ⟨?_, ?_⟩) <;> ((try clear hj_13); (try clear hj_18); lia)) | ((with_reducible refine zO1 ?_) <;> with_reducible assumption) | ((with_reducible refine zO2 ?_) <;> with_reducible assumption) | ((with_reducible refine zU8 ⟨?_, ?_⟩) <;> grind) | ((try clear hj_13); (try clear hj_18); first | lia | grind [zu_at, zu_atL, zvn])))
    exact hj_18 _ (by first | exact True.intro | ((try dsimp only); (repeat' apply And.intro) <;> first | with_reducible assumption | with_reducible exact fun _ => Or.inl rfl | with_reducible exact fun _ _ _ => rfl | with_reducible exact fun _ _ h => Or.inl h | with_reducible rfl | ((with_reducible refine zU7 ?_ ⟨?_, ?_⟩) <;> first | with_reducible assumption | lia) | ((with_reducible refine zU1 ?_) <;> grind [z32_in]) | with_reducible exact zU1m | ((with_reducible refine zU4 ?_) <;> ((try clear hj_13); (try clear hj_18); lia)) | ((with_reducible refine zU2 (h_f3 _) ?_ ?_) <;> first | lia | grind [z32_in]) | ((with_reducible refine zU3 ?_) <;> ((try clear hj_13); (try clear hj_18); lia)) | ((with_reducible refine zU5 (h_f5 _) ?_) <;> with_reducible assumption) | ((with_reducible refine zU6 ?_) <;> ((try clear hj_13); (try clear hj_18); lia)) | ((with_reducible refine zU8 ⟨?_, ?_⟩) <;> ((try clear hj_13); (try clear hj_18); lia)) | ((with_reducible refine zO1 ?_) <;> with_reducible assumption) | ((with_reducible refine zO2 ?_) <;> with_reducible assumption) | ((with_reducible refine zU8 ⟨?_, ?_⟩) <;> grind) | ((try clear hj_13); (try clear hj_18); first | lia | grind [zu_at, zu_atL, zvn])))
  refine zw_if (fun c4 => ?_) (fun c4 => ?_)
  · exact hj_13 _ (by first | exact True.intro | ((try dsimp only); (repeat' apply And.intro) <;> first | with_reducible assumption | with_reducible exact fun _ => Or.inl rfl | with_reducible exact fun _ _ _ => rfl | with_reducible exact fun _ _ h => Or.inl h | with_reducible rfl | ((with_reducible refine zU7 ?_ ⟨?_, ?_⟩) <;> first | with_reducible assumption | lia) | ((with_reducible refine zU1 ?_) <;> grind [z32_in]) | with_reducible exact zU1m | ((with_reducible refine zU4 ?_) <;> ((try clear hj_13); (try clear hj_18); lia)) | ((with_reducible refine zU2 (h_f3 _) ?_ ?_) <;> first | lia | grind [z32_in]) | ((with_reducible refine zU3 ?_) <;> ((try clear hj_13); (try clear hj_18); lia)) | ((with_reducible refine zU5 (h_f5 _) ?_) <;> with_reducible assumption) | ((with_reducible refine zU6 ?_) <;> ((try clear hj_13); (try clear hj_18); lia)) | ((with_reducible refine zU8 ⟨?_, ?_⟩) <;> ((try clear hj_13); (try clear hj_18); lia)) | ((with_reducible refine zO1 ?_) <;> with_reducible assumption) | ((with_reducible refine zO2 ?_) <;> with_reducible assumption) | ((with_reducible refine zU8 ⟨?_, ?_⟩) <;> grind) | ((try clear hj_13); (try clear hj_18); first | lia | grind [zu_at, zu_atL, zvn])))
  refine zw_zb0 (sf_X12_formatNamed o_5_0 v0_11 f5 f6 (by first | with_reducible assumption | exact ⟨by with_reducible assumption, by with_reducible assumption⟩ | ((try clear hj_13); (try clear hj_18); first | lia | grind [zu_at, zu_atL, zvn])) (by first | with_reducible assumption | exact ⟨by with_reducible assumption, by with_reducible assumption⟩ | ((try clear hj_13); (try clear hj_18); first | lia | grind [zu_at, zu_atL, zvn]))) (fun o_36 ho_36 => ?_)
  obtain ⟨ho_36_0, ho_36_1, ho_36_2, ho_36_3, ho_36_4⟩ := ho_36
  exact hj_13 _ (by first | exact True.intro | ((try dsimp only); (repeat' apply And.intro) <;> first | with_reducible assumption | with_reducible exact fun _ => Or.inl rfl | with_reducible exact fun _ _ _ => rfl | with_reducible exact fun _ _ h => Or.inl h | with_reducible rfl | ((with_reducible refine zU7 ?_ ⟨?_, ?_⟩) <;> first | with_reducible assumption | lia) | ((with_reducible refine zU1 ?_) <;> grind [z32_in]) | with_reducible exact zU1m | ((with_reducible refine zU4 ?_) <;> ((try clear hj_13); (try clear hj_18); lia)) | ((with_reducible refine zU2 (h_f3 _) ?_ ?_) <;> first | lia | grind [z32_in]) | ((with_reducible refine zU3 ?_) <;> ((try clear hj_13); (try clear hj_18); lia)) | ((with_reducible refine zU5 (h_f5 _) ?_) <;> with_reducible assumption) | ((with_reducible refine zU6 ?_) <;> ((try clear hj_13); (try clear hj_18); lia)) | ((with_reducible refine zU8 ⟨?_, ?_⟩) <;> ((try clear hj_13); (try clear hj_18); lia)) | ((with_reducible refine zO1 ?_) <;> with_reducible assumption) | ((with_reducible refine zO2 ?_) <;> with_reducible assumption) | ((with_reducible refine zU8 ⟨?_, ?_⟩) <;> grind) | ((try clear hj_13); (try clear hj_18); first | lia | grind [zu_at, zu_atL, zvn])))
