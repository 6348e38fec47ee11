set_option maxHeartbeats 4000000 in
set_option maxRecDepth 100000 in
theorem sf_X12_isIn (j0 : Int64) (j1 : Int64) (j2 : Int64) : zw (fn_X12_isIn j0 j1 j2) (fun r => 0 ≤ r ∧ r ≤ 1 ∧ (¬ r = 0 → 1 ≤ r ∧ j0 ≤ j2 ∧ j1 ≤ j0) ∧ (r = 1 → j0 ≤ j2 ∧ j1 ≤ j0) ∧ (¬ r = 1 → r ≤ 0)) := by
  unfold fn_X12_isIn
  refine zw_ifc (lg_cmp_lt _ _) (fun c1 => ?_) (fun c1 => ?_)
  · refine zw_some ?_
    first | exact True.intro | ((try dsimp only); (repeat' apply And.intro) <;> first | with_reducible assumption | first | lia | grind [zu_at, zu_atL, zvn])
  refine zw_ifc (lg_cmp_gt _ _) (fun c2 => ?_) (fun c2 => ?_)
  · refine zw_some ?_
    first | exact True.intro | ((try dsimp only); (repeat' apply And.intro) <;> first | with_reducible assumption | first | lia | grind [zu_at, zu_atL, zvn])
  refine zw_some ?_
  first | exact True.intro | ((try dsimp only); (repeat' apply And.intro) <;> first | with_reducible assumption | first | lia | grind [zu_at, zu_atL, zvn])
set_option maxHeartbeats 4000000 in
set_option maxRecDepth 100000 in
theorem sf_X12_amount (j0 : Int64) : zw (fn_X12_amount j0) (fun r => ((0 ≤ j0 ∧ 0 ≤ r ∧ j0 ≤ r ∧ r ≤ j0) ∨ (j0 ≤ (-1)))) := by
  unfold fn_X12_amount
  refine zw_ifc (lg_cmp_ge _ _) (fun c1 => ?_) (fun c1 => ?_)
  · refine zw_some ?_
    first | exact True.intro | ((try dsimp only); (repeat' apply And.intro) <;> first | with_reducible assumption | first | lia | grind [zu_at, zu_atL, zvn])
  refine zw_some ?_
  first | exact True.intro | ((try dsimp only); (repeat' apply And.intro) <;> first | with_reducible assumption | first | lia | grind [zu_at, zu_atL, zvn])
set_option maxHeartbeats 4000000 in
set_option maxRecDepth 100000 in
theorem sf_X12_greater (j0 : Int64) (j1 : Int64) : zw (fn_X12_greater j0 j1) (fun r => ((j1 ≤ r ∧ r ≤ j1 ∧ j0 ≤ j1) ∨ (j0 ≤ r ∧ r ≤ j0 ∧ j1 < j0))) := by
  unfold fn_X12_greater
  refine zw_ifc (lg_cmp_le _ _) (fun c1 => ?_) (fun c1 => ?_)
  · refine zw_some ?_
    first | exact True.intro | ((try dsimp only); (repeat' apply And.intro) <;> first | with_reducible assumption | first | lia | grind [zu_at, zu_atL, zvn])
  refine zw_some ?_
  first | exact True.intro | ((try dsimp only); (repeat' apply And.intro) <;> first | with_reducible assumption | first | lia | grind [zu_at, zu_atL, zvn])
set_option maxHeartbeats 4000000 in
set_option maxRecDepth 100000 in
theorem sf_X12_lesser (j0 : Int64) (j1 : Int64) : zw (fn_X12_lesser j0 j1) (fun r => ((j1 ≤ r ∧ r ≤ j1 ∧ j1 ≤ j0) ∨ (j0 ≤ r ∧ r ≤ j0 ∧ j0 < j1))) := by
  unfold fn_X12_lesser
  refine zw_ifc (lg_cmp_ge _ _) (fun c1 => ?_) (fun c1 => ?_)
  · refine zw_some ?_
    first | exact True.intro | ((try dsimp only); (repeat' apply And.intro) <;> first | with_reducible assumption | first | lia | grind [zu_at, zu_atL, zvn])
  refine zw_some ?_
  first | exact True.intro | ((try dsimp only); (repeat' apply And.intro) <;> first | with_reducible assumption | first | lia | grind [zu_at, zu_atL, zvn])
set_option maxHeartbeats 4000000 in
set_option maxRecDepth 100000 in
theorem sf_X12_floor (j0 : Int64) (j1 : Int64) (hx_0 : ¬ j1 = 0) : zw (fn_X12_floor j0 j1) (fun r => True) := by
  unfold fn_X12_floor
  refine zw_zd (by (try dsimp only); first | lia | grind [zu_at, zu_atL, zvn]) ?_
  refine zw_zd (by (try dsimp only); first | lia | grind [zu_at, zu_atL, zvn]) ?_
  refine zw_ifc (lg_cmp_eq _ _) (fun c1 => ?_) (fun c1 => ?_)
  · refine zw_some ?_
    first | exact True.intro | ((try dsimp only); (repeat' apply And.intro) <;> first | with_reducible assumption | first | lia | grind [zu_at, zu_atL, zvn])
  refine zw_ifc (lg_cmp_ge _ _) (fun c2 => ?_) (fun c2 => ?_)
  · refine zw_some ?_
    first | exact True.intro | ((try dsimp only); (repeat' apply And.intro) <;> first | with_reducible assumption | first | lia | grind [zu_at, zu_atL, zvn])
  refine zw_some ?_
  first | exact True.intro | ((try dsimp only); (repeat' apply And.intro) <;> first | with_reducible assumption | first | lia | grind [zu_at, zu_atL, zvn])
set_option maxHeartbeats 4000000 in
set_option maxRecDepth 100000 in
theorem sf_X12_refuses (p1 : Int32) (f1 : Nat → Int32) (h_p1 : 0 ≤ p1 ∧ p1 ≤ 4) : zw (fn_X12_refuses p1 f1) (fun r => (-1) ≤ r.1 ∧ r.1 ≤ (-1)) := by
  unfold fn_X12_refuses
  refine zw_zg32 5 (by decide) (by (try dsimp only); first | lia | grind [zu_at, zu_atL, zvn]) ?_
  refine zw_some ?_
  first | exact True.intro | ((try dsimp only); (repeat' apply And.intro) <;> first | with_reducible assumption | first | lia | grind [zu_at, zu_atL, zvn])
set_option maxHeartbeats 4000000 in
set_option maxRecDepth 100000 in
theorem sf_X12_isRefused (p1 : Int32) (f1 : Nat → Int32) (h_p1 : 0 ≤ p1 ∧ p1 ≤ 4) : zw (fn_X12_isRefused p1 f1) (fun r => 0 ≤ r.1 ∧ r.1 ≤ 1 ∧ r.1 ≤ 0) := by
  unfold fn_X12_isRefused
  refine zw_zg32 5 (by decide) (by (try dsimp only); first | lia | grind [zu_at, zu_atL, zvn]) ?_
  refine zw_some ?_
  first | exact True.intro | ((try dsimp only); (repeat' apply And.intro) <;> first | with_reducible assumption | first | lia | grind [zu_at, zu_atL, zvn])
set_option maxHeartbeats 4000000 in
set_option maxRecDepth 100000 in
theorem sf_X12_lays (p1 : Int32) (v0_1 : Int32) (f1 : Nat → Int32) (h_v0_1 : 0 ≤ v0_1 ∧ v0_1 ≤ 1196) (h_f1 : (∀ i : Nat, 0 ≤ f1 i ∧ f1 i ≤ 255)) : zw (fn_X12_lays p1 v0_1 f1) (fun r => 0 ≤ r.1 ∧ r.1 ≤ 1200 ∧ (∀ i : Nat, 0 ≤ r.2 i ∧ r.2 i ≤ 255) ∧ 4 ≤ r.1 ∧ r.1 ≤ v0_1 + 4 ∧ v0_1 + 4 ≤ r.1) := by
  unfold fn_X12_lays
  refine zw_zl32 (fun s_1 => (∀ i : Nat, 0 ≤ s_1.2 i ∧ s_1.2 i ≤ 255) ∧ 0 ≤ s_1.1 ∧ s_1.1 ≤ 4) (fun s_1 => 4 - s_1.1) (by (try dsimp only); (repeat' apply And.intro) <;> first | with_reducible assumption | first | lia | grind [zu_at, zu_atL, zvn, zand255]) (by (try dsimp only); first | lia | grind [zu_at, zu_atL, zvn, zand255]) (fun s_1 back_1 Hback_1 hback_1 => ?_)
  obtain ⟨s_1_0, s_1_1⟩ := s_1
  try dsimp only at Hback_1 hback_1
  obtain ⟨Hback_1_0, Hback_1_1, Hback_1_2⟩ := Hback_1
  refine zw_if (fun c1 => ?_) (fun c1 => ?_)
  · refine zw_some ?_
    first | exact True.intro | ((try dsimp only); (repeat' apply And.intro) <;> first | with_reducible assumption | first | lia | grind [zu_at, zu_atL, zvn, zand255])
  refine zw_zg32 1200 (by decide) (by (try dsimp only); first | lia | grind [zu_at, zu_atL, zvn, zand255]) ?_
  refine zw_zn1 ?_
  exact hback_1 _ (by (try dsimp only); (repeat' apply And.intro) <;> first | with_reducible assumption | first | lia | grind [zu_at, zu_atL, zvn, zand255]) (by (try dsimp only); first | lia | grind [zu_at, zu_atL, zvn, zand255]) (by (try dsimp only); first | lia | grind [zu_at, zu_atL, zvn, zand255])
set_option maxHeartbeats 4000000 in
set_option maxRecDepth 100000 in
theorem sf_X12_feed (p1 : Int32) (p2 : Int32) (p3 : Int32) (p4 : Int32) (p5 : Int32) (v0_1 : Int32) (f1 : Nat → Int32) (f2 : Nat → Int32) (h_v0_1 : 0 ≤ v0_1 ∧ v0_1 ≤ 1200) (h_f1 : (∀ i : Nat, 0 ≤ f1 i ∧ f1 i ≤ 255)) : zw (fn_X12_feed p1 p2 p3 p4 p5 v0_1 f1 f2) (fun r => 0 ≤ r.2.1 ∧ r.2.1 ≤ 1200 ∧ (∀ i : Nat, 0 ≤ r.2.2.1 i ∧ r.2.2.1 i ≤ 255) ∧ (-1) ≤ r.1 ∧ 20 ≤ r.2.1 ∧ r.1 ≤ 1200 ∧ r.1 ≤ r.2.1 ∧ v0_1 ≤ r.2.1 ∧ (r.1 = (-1) → 1181 ≤ r.2.1 ∧ 1181 ≤ v0_1 ∧ r.2.1 ≤ v0_1) ∧ (¬ r.1 = (-1) → 20 ≤ r.1 ∧ v0_1 ≤ 1180 ∧ r.2.1 ≤ r.1 ∧ v0_1 + 20 ≤ r.1)) := by
  unfold fn_X12_feed
  refine zw_if (fun c1 => ?_) (fun c1 => ?_)
  · refine zw_zb0 (sf_X12_lays p1 v0_1 f1 (by first | with_reducible assumption | exact ⟨by with_reducible assumption, by with_reducible assumption⟩ | first | lia | grind [zu_at, zu_atL, zvn]) (by first | with_reducible assumption | exact ⟨by with_reducible assumption, by with_reducible assumption⟩ | first | lia | grind [zu_at, zu_atL, zvn])) (fun o_2 ho_2 => ?_)
    obtain ⟨o_2_0, o_2_1⟩ := o_2
    try dsimp only at ho_2
    obtain ⟨ho_2_0, ho_2_1, ho_2_2, ho_2_3, ho_2_4, ho_2_5⟩ := ho_2
    refine zw_zb0 (sf_X12_lays p2 o_2_0 o_2_1 (by first | with_reducible assumption | exact ⟨by with_reducible assumption, by with_reducible assumption⟩ | first | lia | grind [zu_at, zu_atL, zvn]) (by first | with_reducible assumption | exact ⟨by with_reducible assumption, by with_reducible assumption⟩ | first | lia | grind [zu_at, zu_atL, zvn])) (fun o_6 ho_6 => ?_)
    obtain ⟨o_6_0, o_6_1⟩ := o_6
    try dsimp only at ho_6
    obtain ⟨ho_6_0, ho_6_1, ho_6_2, ho_6_3, ho_6_4, ho_6_5⟩ := ho_6
    refine zw_zb0 (sf_X12_lays p3 o_6_0 o_6_1 (by first | with_reducible assumption | exact ⟨by with_reducible assumption, by with_reducible assumption⟩ | first | lia | grind [zu_at, zu_atL, zvn]) (by first | with_reducible assumption | exact ⟨by with_reducible assumption, by with_reducible assumption⟩ | first | lia | grind [zu_at, zu_atL, zvn])) (fun o_10 ho_10 => ?_)
    obtain ⟨o_10_0, o_10_1⟩ := o_10
    try dsimp only at ho_10
    obtain ⟨ho_10_0, ho_10_1, ho_10_2, ho_10_3, ho_10_4, ho_10_5⟩ := ho_10
    refine zw_zb0 (sf_X12_lays p4 o_10_0 o_10_1 (by first | with_reducible assumption | exact ⟨by with_reducible assumption, by with_reducible assumption⟩ | first | lia | grind [zu_at, zu_atL, zvn]) (by first | with_reducible assumption | exact ⟨by with_reducible assumption, by with_reducible assumption⟩ | first | lia | grind [zu_at, zu_atL, zvn])) (fun o_14 ho_14 => ?_)
    obtain ⟨o_14_0, o_14_1⟩ := o_14
    try dsimp only at ho_14
    obtain ⟨ho_14_0, ho_14_1, ho_14_2, ho_14_3, ho_14_4, ho_14_5⟩ := ho_14
    refine zw_zb0 (sf_X12_lays p5 o_14_0 o_14_1 (by first | with_reducible assumption | exact ⟨by with_reducible assumption, by with_reducible assumption⟩ | first | lia | grind [zu_at, zu_atL, zvn]) (by first | with_reducible assumption | exact ⟨by with_reducible assumption, by with_reducible assumption⟩ | first | lia | grind [zu_at, zu_atL, zvn])) (fun o_18 ho_18 => ?_)
    obtain ⟨o_18_0, o_18_1⟩ := o_18
    try dsimp only at ho_18
    obtain ⟨ho_18_0, ho_18_1, ho_18_2, ho_18_3, ho_18_4, ho_18_5⟩ := ho_18
    refine zw_some ?_
    first | exact True.intro | ((try dsimp only); (repeat' apply And.intro) <;> first | with_reducible assumption | first | lia | grind [zu_at, zu_atL, zvn])
  refine zw_zb0 (sf_X12_refuses 0 f2 (by first | with_reducible assumption | exact ⟨by with_reducible assumption, by with_reducible assumption⟩ | first | lia | grind [zu_at, zu_atL, zvn])) (fun o_22 ho_22 => ?_)
  obtain ⟨o_22_0, o_22_1⟩ := o_22
  try dsimp only at ho_22
  obtain ⟨ho_22_0, ho_22_1⟩ := ho_22
  refine zw_some ?_
  first | exact True.intro | ((try dsimp only); (repeat' apply And.intro) <;> first | with_reducible assumption | first | lia | grind [zu_at, zu_atL, zvn])
set_option maxHeartbeats 4000000 in
set_option maxRecDepth 100000 in
theorem sf_X12_end (p1 : Int32) (v0_1 : Int32) (f1 : Nat → Int32) (h_v0_1 : 0 ≤ v0_1 ∧ v0_1 ≤ 1200) : zw (fn_X12_end p1 v0_1 f1) (fun r => 0 ≤ r.1 ∧ r.1 ≤ 1 ∧ 0 ≤ r.2.1 ∧ r.2.1 ≤ 1200 ∧ r.2.1 ≤ v0_1 ∧ (r.1 = 0 → v0_1 ≤ r.2.1 ∧ r.1 ≤ r.2.1) ∧ (¬ r.1 = 0 → 0 ≤ p1 ∧ 1 ≤ r.1 ∧ p1 ≤ 1200 ∧ p1 ≤ r.2.1 ∧ r.2.1 ≤ p1) ∧ (r.1 = 1 → 0 ≤ p1 ∧ p1 ≤ 1200 ∧ p1 ≤ r.2.1 ∧ r.2.1 ≤ p1) ∧ (¬ r.1 = 1 → r.1 ≤ 0 ∧ v0_1 ≤ r.2.1)) := by
  unfold fn_X12_end
  refine zw_if (fun c1 => ?_) (fun c1 => ?_)
  · refine zw_zb0 (sf_X12_isRefused 0 f1 (by first | with_reducible assumption | exact ⟨by with_reducible assumption, by with_reducible assumption⟩ | first | lia | grind [zu_at, zu_atL, zvn])) (fun o_2 ho_2 => ?_)
    obtain ⟨o_2_0, o_2_1⟩ := o_2
    try dsimp only at ho_2
    obtain ⟨ho_2_0, ho_2_1, ho_2_2⟩ := ho_2
    refine zw_some ?_
    first | exact True.intro | ((try dsimp only); (repeat' apply And.intro) <;> first | with_reducible assumption | first | lia | grind [zu_at, zu_atL, zvn])
  refine zw_if (fun c2 => ?_) (fun c2 => ?_)
  · refine zw_some ?_
    first | exact True.intro | ((try dsimp only); (repeat' apply And.intro) <;> first | with_reducible assumption | first | lia | grind [zu_at, zu_atL, zvn])
  refine zw_zb0 (sf_X12_isRefused 0 f1 (by first | with_reducible assumption | exact ⟨by with_reducible assumption, by with_reducible assumption⟩ | first | lia | grind [zu_at, zu_atL, zvn])) (fun o_7 ho_7 => ?_)
  obtain ⟨o_7_0, o_7_1⟩ := o_7
  try dsimp only at ho_7
  obtain ⟨ho_7_0, ho_7_1, ho_7_2⟩ := ho_7
  refine zw_some ?_
  first | exact True.intro | ((try dsimp only); (repeat' apply And.intro) <;> first | with_reducible assumption | first | lia | grind [zu_at, zu_atL, zvn])
set_option maxHeartbeats 4000000 in
set_option maxRecDepth 100000 in
theorem sf_X12_byteAt (p1 : Int32) (v0_5 : Int32) (f1 : Nat → Int32) (h_v0_5 : 0 ≤ v0_5 ∧ v0_5 ≤ 1200) (h_f1 : (∀ i : Nat, 0 ≤ f1 i ∧ f1 i ≤ 255)) : zw (fn_X12_byteAt p1 v0_5 f1) (fun r => (-1) ≤ r ∧ r ≤ 255 ∧ (r = (-1) → r < v0_5) ∧ (¬ r = (-1) → 0 ≤ p1 ∧ 0 ≤ r ∧ p1 ≤ 1199 ∧ 1 ≤ v0_5 ∧ p1 < v0_5 ∧ (f1 p1.toNatClampNeg) ≤ 255 ∧ 0 ≤ (f1 p1.toNatClampNeg) ∧ (f1 p1.toNatClampNeg) ≤ r ∧ r ≤ (f1 p1.toNatClampNeg))) := by
  unfold fn_X12_byteAt
  refine zw_if (fun c1 => ?_) (fun c1 => ?_)
  · refine zw_some ?_
    first | exact True.intro | ((try dsimp only); (repeat' apply And.intro) <;> first | with_reducible assumption | first | lia | grind [zu_at, zu_atL, zvn])
  refine zw_if (fun c2 => ?_) (fun c2 => ?_)
  · refine zw_some ?_
    first | exact True.intro | ((try dsimp only); (repeat' apply And.intro) <;> first | with_reducible assumption | first | lia | grind [zu_at, zu_atL, zvn])
  refine zw_zg32 1200 (by decide) (by (try dsimp only); first | lia | grind [zu_at, zu_atL, zvn]) ?_
  refine zw_some ?_
  first | exact True.intro | ((try dsimp only); (repeat' apply And.intro) <;> first | with_reducible assumption | first | lia | grind [zu_at, zu_atL, zvn])
set_option maxHeartbeats 4000000 in
set_option maxRecDepth 100000 in
theorem sf_X12_isSmall (p1 : Int32) (v0_5 : Int32) (f1 : Nat → Int32) (h_v0_5 : 0 ≤ v0_5 ∧ v0_5 ≤ 1200) (h_f1 : (∀ i : Nat, 0 ≤ f1 i ∧ f1 i ≤ 255)) : zw (fn_X12_isSmall p1 v0_5 f1) (fun r => 0 ≤ r ∧ r ≤ 1 ∧ r ≤ v0_5 ∧ (¬ r = 0 → 0 ≤ p1 ∧ 1 ≤ r ∧ p1 ≤ 1199 ∧ p1 < v0_5 ∧ (f1 p1.toNatClampNeg) ≤ 255 ∧ 97 ≤ (f1 p1.toNatClampNeg)) ∧ (r = 1 → 0 ≤ p1 ∧ p1 ≤ 1199 ∧ 1 ≤ v0_5 ∧ p1 < v0_5 ∧ (f1 p1.toNatClampNeg) ≤ 255 ∧ 97 ≤ (f1 p1.toNatClampNeg)) ∧ (¬ r = 1 → r ≤ 0)) := by
  unfold fn_X12_isSmall
  refine zw_zb0 (sf_X12_byteAt p1 v0_5 f1 (by first | with_reducible assumption | exact ⟨by with_reducible assumption, by with_reducible assumption⟩ | first | lia | grind [zu_at, zu_atL, zvn]) (by first | with_reducible assumption | exact ⟨by with_reducible assumption, by with_reducible assumption⟩ | first | lia | grind [zu_at, zu_atL, zvn])) (fun o_1 ho_1 => ?_)
  obtain ⟨ho_1_0, ho_1_1, ho_1_2, ho_1_3⟩ := ho_1
  refine zw_if (fun c1 => ?_) (fun c1 => ?_)
  · refine zw_some ?_
    first | exact True.intro | ((try dsimp only); (repeat' apply And.intro) <;> first | with_reducible assumption | first | lia | grind [zu_at, zu_atL, zvn])
  refine zw_zb0 (sf_X12_byteAt p1 v0_5 f1 (by first | with_reducible assumption | exact ⟨by with_reducible assumption, by with_reducible assumption⟩ | first | lia | grind [zu_at, zu_atL, zvn]) (by first | with_reducible assumption | exact ⟨by with_reducible assumption, by with_reducible assumption⟩ | first | lia | grind [zu_at, zu_atL, zvn])) (fun o_6 ho_6 => ?_)
  obtain ⟨ho_6_0, ho_6_1, ho_6_2, ho_6_3⟩ := ho_6
  refine zw_if (fun c2 => ?_) (fun c2 => ?_)
  · refine zw_some ?_
    first | exact True.intro | ((try dsimp only); (repeat' apply And.intro) <;> first | with_reducible assumption | first | lia | grind [zu_at, zu_atL, zvn])
  refine zw_some ?_
  first | exact True.intro | ((try dsimp only); (repeat' apply And.intro) <;> first | with_reducible assumption | first | lia | grind [zu_at, zu_atL, zvn])
set_option maxHeartbeats 4000000 in
set_option maxRecDepth 100000 in
theorem sf_X12_isDigit (p1 : Int32) (v0_5 : Int32) (f1 : Nat → Int32) (h_v0_5 : 0 ≤ v0_5 ∧ v0_5 ≤ 1200) (h_f1 : (∀ i : Nat, 0 ≤ f1 i ∧ f1 i ≤ 255)) : zw (fn_X12_isDigit p1 v0_5 f1) (fun r => 0 ≤ r ∧ r ≤ 1 ∧ r ≤ v0_5 ∧ (¬ r = 0 → 0 ≤ p1 ∧ 1 ≤ r ∧ p1 ≤ 1199 ∧ p1 < v0_5 ∧ (f1 p1.toNatClampNeg) ≤ 255 ∧ 48 ≤ (f1 p1.toNatClampNeg)) ∧ (r = 1 → 0 ≤ p1 ∧ p1 ≤ 1199 ∧ 1 ≤ v0_5 ∧ p1 < v0_5 ∧ (f1 p1.toNatClampNeg) ≤ 255 ∧ 48 ≤ (f1 p1.toNatClampNeg)) ∧ (¬ r = 1 → r ≤ 0)) := by
  unfold fn_X12_isDigit
  refine zw_zb0 (sf_X12_byteAt p1 v0_5 f1 (by first | with_reducible assumption | exact ⟨by with_reducible assumption, by with_reducible assumption⟩ | first | lia | grind [zu_at, zu_atL, zvn]) (by first | with_reducible assumption | exact ⟨by with_reducible assumption, by with_reducible assumption⟩ | first | lia | grind [zu_at, zu_atL, zvn])) (fun o_1 ho_1 => ?_)
  obtain ⟨ho_1_0, ho_1_1, ho_1_2, ho_1_3⟩ := ho_1
  refine zw_if (fun c1 => ?_) (fun c1 => ?_)
  · refine zw_some ?_
    first | exact True.intro | ((try dsimp only); (repeat' apply And.intro) <;> first | with_reducible assumption | first | lia | grind [zu_at, zu_atL, zvn])
  refine zw_zb0 (sf_X12_byteAt p1 v0_5 f1 (by first | with_reducible assumption | exact ⟨by with_reducible assumption, by with_reducible assumption⟩ | first | lia | grind [zu_at, zu_atL, zvn]) (by first | with_reducible assumption | exact ⟨by with_reducible assumption, by with_reducible assumption⟩ | first | lia | grind [zu_at, zu_atL, zvn])) (fun o_6 ho_6 => ?_)
  obtain ⟨ho_6_0, ho_6_1, ho_6_2, ho_6_3⟩ := ho_6
  refine zw_if (fun c2 => ?_) (fun c2 => ?_)
  · refine zw_some ?_
    first | exact True.intro | ((try dsimp only); (repeat' apply And.intro) <;> first | with_reducible assumption | first | lia | grind [zu_at, zu_atL, zvn])
  refine zw_some ?_
  first | exact True.intro | ((try dsimp only); (repeat' apply And.intro) <;> first | with_reducible assumption | first | lia | grind [zu_at, zu_atL, zvn])
set_option maxHeartbeats 4000000 in
set_option maxRecDepth 100000 in
theorem sf_X12_here (v0_5 : Int32) (v0_6 : Int32) (f1 : Nat → Int32) (h_v0_5 : 0 ≤ v0_5 ∧ v0_5 ≤ 1200) (h_v0_6 : 0 ≤ v0_6 ∧ v0_6 ≤ 1200) (h_f1 : (∀ i : Nat, 0 ≤ f1 i ∧ f1 i ≤ 255)) : zw (fn_X12_here v0_5 v0_6 f1) (fun r => 0 ≤ r.2 ∧ r.2 ≤ 1200 ∧ (-1) ≤ r.1 ∧ r.1 ≤ 255 ∧ v0_6 ≤ r.2 ∧ (r.1 = (-1) → r.1 < r.2 ∧ r.1 < v0_5 ∧ r.1 < v0_6) ∧ (¬ r.1 = (-1) → 0 ≤ r.1 ∧ r.2 ≤ 1199 ∧ 1 ≤ v0_5 ∧ r.2 < v0_5)) := by
  unfold fn_X12_here
  refine zw_zl32 (fun s_1 => 0 ≤ s_1 ∧ s_1 ≤ 1200 ∧ v0_6 ≤ s_1) (fun s_1 => 1200 - s_1) (by (try dsimp only); (repeat' apply And.intro) <;> first | with_reducible assumption | first | lia | grind [zu_at, zu_atL, zvn]) (by (try dsimp only); first | lia | grind [zu_at, zu_atL, zvn]) (fun s_1 back_1 Hback_1 hback_1 => ?_)
  obtain ⟨Hback_1_0, Hback_1_1, Hback_1_2⟩ := Hback_1
  refine zw_zb0 (sf_X12_byteAt s_1 v0_5 f1 (by first | with_reducible assumption | exact ⟨by with_reducible assumption, by with_reducible assumption⟩ | first | lia | grind [zu_at, zu_atL, zvn]) (by first | with_reducible assumption | exact ⟨by with_reducible assumption, by with_reducible assumption⟩ | first | lia | grind [zu_at, zu_atL, zvn])) (fun o_2 ho_2 => ?_)
  obtain ⟨ho_2_0, ho_2_1, ho_2_2, ho_2_3⟩ := ho_2
  refine zw_if (fun c1 => ?_) (fun c1 => ?_)
  · exact hback_1 _ (by (try dsimp only); (repeat' apply And.intro) <;> first | with_reducible assumption | first | lia | grind [zu_at, zu_atL, zvn]) (by (try dsimp only); first | lia | grind [zu_at, zu_atL, zvn]) (by (try dsimp only); first | lia | grind [zu_at, zu_atL, zvn])
  refine zw_zb0 (sf_X12_byteAt s_1 v0_5 f1 (by first | with_reducible assumption | exact ⟨by with_reducible assumption, by with_reducible assumption⟩ | first | lia | grind [zu_at, zu_atL, zvn]) (by first | with_reducible assumption | exact ⟨by with_reducible assumption, by with_reducible assumption⟩ | first | lia | grind [zu_at, zu_atL, zvn])) (fun o_7 ho_7 => ?_)
  obtain ⟨ho_7_0, ho_7_1, ho_7_2, ho_7_3⟩ := ho_7
  refine zw_if (fun c2 => ?_) (fun c2 => ?_)
  · exact hback_1 _ (by (try dsimp only); (repeat' apply And.intro) <;> first | with_reducible assumption | first | lia | grind [zu_at, zu_atL, zvn]) (by (try dsimp only); first | lia | grind [zu_at, zu_atL, zvn]) (by (try dsimp only); first | lia | grind [zu_at, zu_atL, zvn])
  refine zw_zb0 (sf_X12_byteAt s_1 v0_5 f1 (by first | with_reducible assumption | exact ⟨by with_reducible assumption, by with_reducible assumption⟩ | first | lia | grind [zu_at, zu_atL, zvn]) (by first | with_reducible assumption | exact ⟨by with_reducible assumption, by with_reducible assumption⟩ | first | lia | grind [zu_at, zu_atL, zvn])) (fun o_12 ho_12 => ?_)
  obtain ⟨ho_12_0, ho_12_1, ho_12_2, ho_12_3⟩ := ho_12
  refine zw_some ?_
  first | exact True.intro | ((try dsimp only); (repeat' apply And.intro) <;> first | with_reducible assumption | first | lia | grind [zu_at, zu_atL, zvn])
set_option maxHeartbeats 4000000 in
set_option maxRecDepth 100000 in
theorem sf_X12_faults (p1 : Int32) (p2 : Int32) (v0_8 : Int32) (v0_9 : Int32) (h_p1 : 1 ≤ p1 ∧ p1 ≤ 4) (h_v0_8 : 0 ≤ v0_8 ∧ v0_8 ≤ 4) : zw (fn_X12_faults p1 p2 v0_8 v0_9) (fun r => 0 ≤ r.1 ∧ r.1 ≤ 4 ∧ 1 ≤ r.1 ∧ v0_8 ≤ r.1) := by
  unfold fn_X12_faults
  refine zw_if (fun c1 => ?_) (fun c1 => ?_)
  · refine zw_some ?_
    first | exact True.intro | ((try dsimp only); (repeat' apply And.intro) <;> first | with_reducible assumption | first | lia | grind [zu_at, zu_atL, zvn])
  refine zw_some ?_
  first | exact True.intro | ((try dsimp only); (repeat' apply And.intro) <;> first | with_reducible assumption | first | lia | grind [zu_at, zu_atL, zvn])
set_option maxHeartbeats 4000000 in
set_option maxRecDepth 100000 in
theorem sf_X12_goesWell (v0_8 : Int32) (h_v0_8 : 0 ≤ v0_8 ∧ v0_8 ≤ 4) : zw (fn_X12_goesWell v0_8) (fun r => 0 ≤ r ∧ r ≤ 1 ∧ (r = 1 → v0_8 ≤ 0 ∧ v0_8 < r) ∧ (¬ r = 1 → r ≤ 0 ∧ 1 ≤ v0_8) ∧ (r = 0 → 1 ≤ v0_8 ∧ r < v0_8) ∧ (¬ r = 0 → 1 ≤ r ∧ v0_8 ≤ 0)) := by
  unfold fn_X12_goesWell
  refine zw_if (fun c1 => ?_) (fun c1 => ?_)
  · refine zw_some ?_
    first | exact True.intro | ((try dsimp only); (repeat' apply And.intro) <;> first | with_reducible assumption | first | lia | grind [zu_at, zu_atL, zvn])
  refine zw_some ?_
  first | exact True.intro | ((try dsimp only); (repeat' apply And.intro) <;> first | with_reducible assumption | first | lia | grind [zu_at, zu_atL, zvn])
set_option maxHeartbeats 4000000 in
set_option maxRecDepth 100000 in
theorem sf_X12_mark (p1 : Int32) (v0_5 : Int32) (v0_6 : Int32) (v0_8 : Int32) (v0_9 : Int32) (f1 : Nat → Int32) (h_p1 : 0 ≤ p1 ∧ p1 ≤ 255) (h_v0_5 : 0 ≤ v0_5 ∧ v0_5 ≤ 1200) (h_v0_6 : 0 ≤ v0_6 ∧ v0_6 ≤ 1200) (h_v0_8 : 0 ≤ v0_8 ∧ v0_8 ≤ 4) (h_f1 : (∀ i : Nat, 0 ≤ f1 i ∧ f1 i ≤ 255)) : zw (fn_X12_mark p1 v0_5 v0_6 v0_8 v0_9 f1) (fun r => 0 ≤ r.1 ∧ r.1 ≤ 1200 ∧ 0 ≤ r.2.1 ∧ r.2.1 ≤ 4 ∧ v0_6 ≤ r.1 ∧ v0_8 ≤ r.2.1) := by
  unfold fn_X12_mark
  refine zw_zb0 (sf_X12_goesWell v0_8 (by first | with_reducible assumption | exact ⟨by with_reducible assumption, by with_reducible assumption⟩ | first | lia | grind [zu_at, zu_atL, zvn])) (fun o_1 ho_1 => ?_)
  obtain ⟨ho_1_0, ho_1_1, ho_1_2, ho_1_3, ho_1_4, ho_1_5⟩ := ho_1
  refine zw_if (fun c1 => ?_) (fun c1 => ?_)
  · refine zw_some ?_
    first | exact True.intro | ((try dsimp only); (repeat' apply And.intro) <;> first | with_reducible assumption | first | lia | grind [zu_at, zu_atL, zvn])
  refine zw_zb0 (sf_X12_here v0_5 v0_6 f1 (by first | with_reducible assumption | exact ⟨by with_reducible assumption, by with_reducible assumption⟩ | first | lia | grind [zu_at, zu_atL, zvn]) (by first | with_reducible assumption | exact ⟨by with_reducible assumption, by with_reducible assumption⟩ | first | lia | grind [zu_at, zu_atL, zvn]) (by first | with_reducible assumption | exact ⟨by with_reducible assumption, by with_reducible assumption⟩ | first | lia | grind [zu_at, zu_atL, zvn])) (fun o_6 ho_6 => ?_)
  obtain ⟨o_6_0, o_6_1⟩ := o_6
  try dsimp only at ho_6
  obtain ⟨ho_6_0, ho_6_1, ho_6_2, ho_6_3, ho_6_4, ho_6_5, ho_6_6⟩ := ho_6
  refine zw_if (fun c2 => ?_) (fun c2 => ?_)
  · refine zw_some ?_
    first | exact True.intro | ((try dsimp only); (repeat' apply And.intro) <;> first | with_reducible assumption | first | lia | grind [zu_at, zu_atL, zvn])
  refine zw_zb0 (sf_X12_faults 1 o_6_1 v0_8 v0_9 (by first | with_reducible assumption | exact ⟨by with_reducible assumption, by with_reducible assumption⟩ | first | lia | grind [zu_at, zu_atL, zvn]) (by first | with_reducible assumption | exact ⟨by with_reducible assumption, by with_reducible assumption⟩ | first | lia | grind [zu_at, zu_atL, zvn])) (fun o_11 ho_11 => ?_)
  obtain ⟨o_11_0, o_11_1⟩ := o_11
  try dsimp only at ho_11
  obtain ⟨ho_11_0, ho_11_1, ho_11_2, ho_11_3⟩ := ho_11
  refine zw_some ?_
  first | exact True.intro | ((try dsimp only); (repeat' apply And.intro) <;> first | with_reducible assumption | first | lia | grind [zu_at, zu_atL, zvn])
noncomputable def zTab (k : Nat) : Int32 := ([6, 15, 18, 13, 1, 20, 0, 19, 20, 5, 16, 0, 13, 15, 19, 20, 0, 3, 15, 19, 20, 0, 3, 1, 19, 20, 0, 9, 14, 16, 21, 20, 0, 12, 5, 20, 0, 13, 9, 14, 0, 13, 1, 24, 0, 6, 9, 24, 5, 4, 0, 7, 18, 15, 21, 16, 0, 1, 14, 19, 23, 5, 18, 0, 23, 9, 20, 8, 9, 14, 0] : List Int32).getD k 0
noncomputable def zPair (n k : Int32) : Prop := n = 0 ∧ k = 0 ∨ n = 1 ∧ k = 7 ∨ n = 2 ∧ k = 12 ∨ n = 3 ∧ k = 17 ∨ n = 4 ∧ k = 22 ∨ n = 5 ∧ k = 27 ∨ n = 6 ∧ k = 33 ∨ n = 7 ∧ k = 37 ∨ n = 8 ∧ k = 41 ∨ n = 9 ∧ k = 45 ∨ n = 10 ∧ k = 51 ∨ n = 11 ∧ k = 57 ∨ n = 12 ∧ k = 64 ∨ n = 13 ∧ k = 71
theorem zTab_ne {f1 : Nat → Int32} (hT : ∀ k : Nat, k < 71 → f1 k = zTab k) (c : Int32) (h : decide (c.toNatClampNeg < 71 ∧ ¬ zTab c.toNatClampNeg = 0) = true) : ¬ f1 c.toNatClampNeg = 0 := by
  have h := of_decide_eq_true h
  rw [hT _ h.1]; exact h.2
theorem zTab_eq {f1 : Nat → Int32} (hT : ∀ k : Nat, k < 71 → f1 k = zTab k) (c : Int32) (h : decide (c.toNatClampNeg < 71 ∧ zTab c.toNatClampNeg = 0) = true) : f1 c.toNatClampNeg = 0 := by
  have h := of_decide_eq_true h
  rw [hT _ h.1]; exact h.2
theorem zTabW (f1 : Nat → Int32) (hT : ∀ k : Nat, k < 71 → f1 k = zTab k) (n k : Int32) (hp : zPair n k) (hn : n ≤ 12) : ∃ e : Int32, 0 ≤ k ∧ k ≤ e ∧ e ≤ 70 ∧ f1 e.toNatClampNeg = 0 ∧ (∀ x : Int32, k ≤ x → x < e → ¬ f1 x.toNatClampNeg = 0) ∧ zPair (n + 1) (e + 1) := by
  unfold zPair at hp
  rcases hp with ⟨rfl, rfl⟩ | ⟨rfl, rfl⟩ | ⟨rfl, rfl⟩ | ⟨rfl, rfl⟩ | ⟨rfl, rfl⟩ | ⟨rfl, rfl⟩ | ⟨rfl, rfl⟩ | ⟨rfl, rfl⟩ | ⟨rfl, rfl⟩ | ⟨rfl, rfl⟩ | ⟨rfl, rfl⟩ | ⟨rfl, rfl⟩ | ⟨rfl, rfl⟩ | ⟨rfl, rfl⟩
  · refine ⟨6, by decide, by decide, by decide, zTab_eq hT 6 (by decide +kernel), fun x h1 h2 => ?_, ?_⟩
    · rcases (show x = 0 ∨ x = 1 ∨ x = 2 ∨ x = 3 ∨ x = 4 ∨ x = 5 by lia) with rfl | rfl | rfl | rfl | rfl | rfl
      · exact zTab_ne hT 0 (by decide +kernel)
      · exact zTab_ne hT 1 (by decide +kernel)
      · exact zTab_ne hT 2 (by decide +kernel)
      · exact zTab_ne hT 3 (by decide +kernel)
      · exact zTab_ne hT 4 (by decide +kernel)
      · exact zTab_ne hT 5 (by decide +kernel)
    · unfold zPair; exact Or.inr (Or.inl ⟨by decide, by decide⟩)
  · refine ⟨11, by decide, by decide, by decide, zTab_eq hT 11 (by decide +kernel), fun x h1 h2 => ?_, ?_⟩
    · rcases (show x = 7 ∨ x = 8 ∨ x = 9 ∨ x = 10 by lia) with rfl | rfl | rfl | rfl
      · exact zTab_ne hT 7 (by decide +kernel)
      · exact zTab_ne hT 8 (by decide +kernel)
      · exact zTab_ne hT 9 (by decide +kernel)
      · exact zTab_ne hT 10 (by decide +kernel)
    · unfold zPair; exact Or.inr (Or.inr (Or.inl ⟨by decide, by decide⟩))
  · refine ⟨16, by decide, by decide, by decide, zTab_eq hT 16 (by decide +kernel), fun x h1 h2 => ?_, ?_⟩
    · rcases (show x = 12 ∨ x = 13 ∨ x = 14 ∨ x = 15 by lia) with rfl | rfl | rfl | rfl
      · exact zTab_ne hT 12 (by decide +kernel)
      · exact zTab_ne hT 13 (by decide +kernel)
      · exact zTab_ne hT 14 (by decide +kernel)
      · exact zTab_ne hT 15 (by decide +kernel)
    · unfold zPair; exact Or.inr (Or.inr (Or.inr (Or.inl ⟨by decide, by decide⟩)))
  · refine ⟨21, by decide, by decide, by decide, zTab_eq hT 21 (by decide +kernel), fun x h1 h2 => ?_, ?_⟩
    · rcases (show x = 17 ∨ x = 18 ∨ x = 19 ∨ x = 20 by lia) with rfl | rfl | rfl | rfl
      · exact zTab_ne hT 17 (by decide +kernel)
      · exact zTab_ne hT 18 (by decide +kernel)
      · exact zTab_ne hT 19 (by decide +kernel)
      · exact zTab_ne hT 20 (by decide +kernel)
    · unfold zPair; exact Or.inr (Or.inr (Or.inr (Or.inr (Or.inl ⟨by decide, by decide⟩))))
  · refine ⟨26, by decide, by decide, by decide, zTab_eq hT 26 (by decide +kernel), fun x h1 h2 => ?_, ?_⟩
    · rcases (show x = 22 ∨ x = 23 ∨ x = 24 ∨ x = 25 by lia) with rfl | rfl | rfl | rfl
      · exact zTab_ne hT 22 (by decide +kernel)
      · exact zTab_ne hT 23 (by decide +kernel)
      · exact zTab_ne hT 24 (by decide +kernel)
      · exact zTab_ne hT 25 (by decide +kernel)
    · unfold zPair; exact Or.inr (Or.inr (Or.inr (Or.inr (Or.inr (Or.inl ⟨by decide, by decide⟩)))))
  · refine ⟨32, by decide, by decide, by decide, zTab_eq hT 32 (by decide +kernel), fun x h1 h2 => ?_, ?_⟩
    · rcases (show x = 27 ∨ x = 28 ∨ x = 29 ∨ x = 30 ∨ x = 31 by lia) with rfl | rfl | rfl | rfl | rfl
      · exact zTab_ne hT 27 (by decide +kernel)
      · exact zTab_ne hT 28 (by decide +kernel)
      · exact zTab_ne hT 29 (by decide +kernel)
      · exact zTab_ne hT 30 (by decide +kernel)
      · exact zTab_ne hT 31 (by decide +kernel)
    · unfold zPair; exact Or.inr (Or.inr (Or.inr (Or.inr (Or.inr (Or.inr (Or.inl ⟨by decide, by decide⟩))))))
  · refine ⟨36, by decide, by decide, by decide, zTab_eq hT 36 (by decide +kernel), fun x h1 h2 => ?_, ?_⟩
    · rcases (show x = 33 ∨ x = 34 ∨ x = 35 by lia) with rfl | rfl | rfl
      · exact zTab_ne hT 33 (by decide +kernel)
      · exact zTab_ne hT 34 (by decide +kernel)
      · exact zTab_ne hT 35 (by decide +kernel)
    · unfold zPair; exact Or.inr (Or.inr (Or.inr (Or.inr (Or.inr (Or.inr (Or.inr (Or.inl ⟨by decide, by decide⟩)))))))
  · refine ⟨40, by decide, by decide, by decide, zTab_eq hT 40 (by decide +kernel), fun x h1 h2 => ?_, ?_⟩
    · rcases (show x = 37 ∨ x = 38 ∨ x = 39 by lia) with rfl | rfl | rfl
      · exact zTab_ne hT 37 (by decide +kernel)
      · exact zTab_ne hT 38 (by decide +kernel)
      · exact zTab_ne hT 39 (by decide +kernel)
    · unfold zPair; exact Or.inr (Or.inr (Or.inr (Or.inr (Or.inr (Or.inr (Or.inr (Or.inr (Or.inl ⟨by decide, by decide⟩))))))))
  · refine ⟨44, by decide, by decide, by decide, zTab_eq hT 44 (by decide +kernel), fun x h1 h2 => ?_, ?_⟩
    · rcases (show x = 41 ∨ x = 42 ∨ x = 43 by lia) with rfl | rfl | rfl
      · exact zTab_ne hT 41 (by decide +kernel)
      · exact zTab_ne hT 42 (by decide +kernel)
      · exact zTab_ne hT 43 (by decide +kernel)
    · unfold zPair; exact Or.inr (Or.inr (Or.inr (Or.inr (Or.inr (Or.inr (Or.inr (Or.inr (Or.inr (Or.inl ⟨by decide, by decide⟩)))))))))
  · refine ⟨50, by decide, by decide, by decide, zTab_eq hT 50 (by decide +kernel), fun x h1 h2 => ?_, ?_⟩
    · rcases (show x = 45 ∨ x = 46 ∨ x = 47 ∨ x = 48 ∨ x = 49 by lia) with rfl | rfl | rfl | rfl | rfl
      · exact zTab_ne hT 45 (by decide +kernel)
      · exact zTab_ne hT 46 (by decide +kernel)
      · exact zTab_ne hT 47 (by decide +kernel)
      · exact zTab_ne hT 48 (by decide +kernel)
      · exact zTab_ne hT 49 (by decide +kernel)
    · unfold zPair; exact Or.inr (Or.inr (Or.inr (Or.inr (Or.inr (Or.inr (Or.inr (Or.inr (Or.inr (Or.inr (Or.inl ⟨by decide, by decide⟩))))))))))
  · refine ⟨56, by decide, by decide, by decide, zTab_eq hT 56 (by decide +kernel), fun x h1 h2 => ?_, ?_⟩
    · rcases (show x = 51 ∨ x = 52 ∨ x = 53 ∨ x = 54 ∨ x = 55 by lia) with rfl | rfl | rfl | rfl | rfl
      · exact zTab_ne hT 51 (by decide +kernel)
      · exact zTab_ne hT 52 (by decide +kernel)
      · exact zTab_ne hT 53 (by decide +kernel)
      · exact zTab_ne hT 54 (by decide +kernel)
      · exact zTab_ne hT 55 (by decide +kernel)
    · unfold zPair; exact Or.inr (Or.inr (Or.inr (Or.inr (Or.inr (Or.inr (Or.inr (Or.inr (Or.inr (Or.inr (Or.inr (Or.inl ⟨by decide, by decide⟩)))))))))))
  · refine ⟨63, by decide, by decide, by decide, zTab_eq hT 63 (by decide +kernel), fun x h1 h2 => ?_, ?_⟩
    · rcases (show x = 57 ∨ x = 58 ∨ x = 59 ∨ x = 60 ∨ x = 61 ∨ x = 62 by lia) with rfl | rfl | rfl | rfl | rfl | rfl
      · exact zTab_ne hT 57 (by decide +kernel)
      · exact zTab_ne hT 58 (by decide +kernel)
      · exact zTab_ne hT 59 (by decide +kernel)
      · exact zTab_ne hT 60 (by decide +kernel)
      · exact zTab_ne hT 61 (by decide +kernel)
      · exact zTab_ne hT 62 (by decide +kernel)
    · unfold zPair; exact Or.inr (Or.inr (Or.inr (Or.inr (Or.inr (Or.inr (Or.inr (Or.inr (Or.inr (Or.inr (Or.inr (Or.inr (Or.inl ⟨by decide, by decide⟩))))))))))))
  · refine ⟨70, by decide, by decide, by decide, zTab_eq hT 70 (by decide +kernel), fun x h1 h2 => ?_, ?_⟩
    · rcases (show x = 64 ∨ x = 65 ∨ x = 66 ∨ x = 67 ∨ x = 68 ∨ x = 69 by lia) with rfl | rfl | rfl | rfl | rfl | rfl
      · exact zTab_ne hT 64 (by decide +kernel)
      · exact zTab_ne hT 65 (by decide +kernel)
      · exact zTab_ne hT 66 (by decide +kernel)
      · exact zTab_ne hT 67 (by decide +kernel)
      · exact zTab_ne hT 68 (by decide +kernel)
      · exact zTab_ne hT 69 (by decide +kernel)
    · unfold zPair; exact Or.inr (Or.inr (Or.inr (Or.inr (Or.inr (Or.inr (Or.inr (Or.inr (Or.inr (Or.inr (Or.inr (Or.inr (Or.inr (⟨by decide, by decide⟩)))))))))))))
  · exact absurd hn (by decide)
set_option maxHeartbeats 4000000 in
theorem sf_X12_own (v0_6 : Int32) (v0_7 : Int32) (f1 : Nat → Int32) (f2 : Nat → Int32) (h_v0_6 : 0 ≤ v0_6 ∧ v0_6 ≤ 1200) (h_v0_7 : 0 ≤ v0_7 ∧ v0_7 ≤ 1200) (hf2 : True) (hT : (∀ k : Nat, k < 71 → f1 k = zTab k)) : zw (fn_X12_own v0_6 v0_7 f1 f2) (fun r => (-1) ≤ r ∧ r ≤ 12) := by
  unfold fn_X12_own
  refine zw_zl32 (fun s_1 => zPair s_1.2 s_1.1 ∧ 0 ≤ s_1.2 ∧ s_1.2 ≤ 13) (fun s_1 => 13 - s_1.2) ⟨Or.inl ⟨rfl, rfl⟩, by decide, by decide⟩ (by decide) (fun s_1 back_1 H1 h1 => ?_)
  obtain ⟨kk, nn⟩ := s_1
  dsimp only at H1 h1 ⊢
  obtain ⟨hpair, hn0, hn1⟩ := H1
  refine zw_if (fun c1 => ?_) (fun c1 => ?_)
  · refine zw_some ?_
    decide
  obtain ⟨e, he0, he1, he2, he3, he4, he5⟩ := zTabW f1 hT nn kk hpair (by lia)
  clear hpair hT
  have J : zw (zl (fun (s_8 : Int32) back_8 => (zg s_8 71 (if (f1 s_8.toNatClampNeg) = 0 then (back_1 ((s_8 + 1), (nn + 1))) else (back_8 (s_8 + 1))))) 100000 kk) (fun r => (-1) ≤ r ∧ r ≤ 12) := by
    refine zw_zl32 (fun s_8 => kk ≤ s_8 ∧ s_8 ≤ e) (fun s_8 => e - s_8) ⟨by lia, he1⟩ (by lia) (fun s_8 back_8 H8 h8 => ?_)
    obtain ⟨H8a, H8b⟩ := H8
    refine zw_zg32 71 (by decide) ⟨by lia, by lia⟩ ?_
    refine zw_if (fun c2 => ?_) (fun c2 => ?_)
    · have hq : s_8 = e := by
        by_cases q : s_8 < e
        · exact absurd c2 (he4 s_8 H8a q)
        · lia
      rw [hq]
      exact h1 _ ⟨he5, by dsimp only; lia, by dsimp only; lia⟩ (by dsimp only; lia) (by dsimp only; lia)
    · have hq : ¬ s_8 = e := by intro hq; rw [hq] at c2; exact c2 he3
      exact h8 _ ⟨by lia, by lia⟩ (by lia) (by lia)
  refine zw_zl32 (fun s_3 => 0 ≤ s_3 ∧ kk + s_3 ≤ e ∧ s_3 ≤ 70) (fun s_3 => e - (kk + s_3)) ⟨by decide, by lia, by decide⟩ (by lia) (fun s_3 back_3 H3 h3 => ?_)
  obtain ⟨m0, m1, m2⟩ := H3
  refine zw_zg32 71 (by decide) ⟨by lia, by lia⟩ ?_
  refine zw_zj (fun _ => True) (fun s_5 _ => ?_) (fun j_5 hj5 => ?_)
  · refine zw_zg32 71 (by decide) ⟨by lia, by lia⟩ ?_
    refine zw_zj (fun _ => True) (fun s_7 _ => J) (fun j_7 hj7 => ?_)
    refine zw_if (fun c3 => ?_) (fun c3 => ?_)
    · refine zw_if (fun c4 => ?_) (fun c4 => ?_)
      · refine zw_some ?_
        exact ⟨by lia, by lia⟩
      exact hj7 _ trivial
    exact hj7 _ trivial
  refine zw_if (fun c3 => ?_) (fun c3 => ?_)
  · exact hj5 _ trivial
  refine zw_if (fun c4 => ?_) (fun c4 => ?_)
  · exact hj5 _ trivial
  refine zw_zg32 1200 (by decide) ⟨by lia, by lia⟩ ?_
  refine zw_if (fun c5 => ?_) (fun c5 => ?_)
  · have hq : ¬ kk + s_3 = e := by intro hq; rw [hq] at c3; exact c3 he3
    exact h3 _ ⟨by lia, by lia, by lia⟩ (by lia) (by lia)
  exact hj5 _ trivial
set_option maxHeartbeats 4000000 in
set_option maxRecDepth 100000 in
theorem sf_X12_word (v0_5 : Int32) (v0_6 : Int32) (v0_7 : Int32) (v0_8 : Int32) (v0_9 : Int32) (f1 : Nat → Int32) (h_v0_5 : 0 ≤ v0_5 ∧ v0_5 ≤ 1200) (h_v0_6 : 0 ≤ v0_6 ∧ v0_6 ≤ 1200) (h_v0_7 : 0 ≤ v0_7 ∧ v0_7 ≤ 1200) (h_v0_8 : 0 ≤ v0_8 ∧ v0_8 ≤ 4) (h_f1 : (∀ i : Nat, 0 ≤ f1 i ∧ f1 i ≤ 255)) : zw (fn_X12_word v0_5 v0_6 v0_7 v0_8 v0_9 f1) (fun r => 0 ≤ r.1 ∧ r.1 ≤ 1200 ∧ 0 ≤ r.2.1 ∧ r.2.1 ≤ 1200 ∧ 0 ≤ r.2.2.1 ∧ r.2.2.1 ≤ 4 ∧ v0_6 ≤ r.1 ∧ v0_8 ≤ r.2.2.1) := by
  unfold fn_X12_word
  refine zw_zb0 (sf_X12_goesWell v0_8 (by first | with_reducible assumption | exact ⟨by with_reducible assumption, by with_reducible assumption⟩ | first | lia | grind [zu_at, zu_atL, zvn])) (fun o_1 ho_1 => ?_)
  obtain ⟨ho_1_0, ho_1_1, ho_1_2, ho_1_3, ho_1_4, ho_1_5⟩ := ho_1
  refine zw_if (fun c1 => ?_) (fun c1 => ?_)
  · refine zw_some ?_
    first | exact True.intro | ((try dsimp only); (repeat' apply And.intro) <;> first | with_reducible assumption | first | lia | grind [zu_at, zu_atL, zvn])
  refine zw_zb0 (sf_X12_here v0_5 v0_6 f1 (by first | with_reducible assumption | exact ⟨by with_reducible assumption, by with_reducible assumption⟩ | first | lia | grind [zu_at, zu_atL, zvn]) (by first | with_reducible assumption | exact ⟨by with_reducible assumption, by with_reducible assumption⟩ | first | lia | grind [zu_at, zu_atL, zvn]) (by first | with_reducible assumption | exact ⟨by with_reducible assumption, by with_reducible assumption⟩ | first | lia | grind [zu_at, zu_atL, zvn])) (fun o_6 ho_6 => ?_)
  obtain ⟨o_6_0, o_6_1⟩ := o_6
  try dsimp only at ho_6
  obtain ⟨ho_6_0, ho_6_1, ho_6_2, ho_6_3, ho_6_4, ho_6_5, ho_6_6⟩ := ho_6
  refine zw_zb0 (sf_X12_isSmall o_6_1 v0_5 f1 (by first | with_reducible assumption | exact ⟨by with_reducible assumption, by with_reducible assumption⟩ | first | lia | grind [zu_at, zu_atL, zvn]) (by first | with_reducible assumption | exact ⟨by with_reducible assumption, by with_reducible assumption⟩ | first | lia | grind [zu_at, zu_atL, zvn])) (fun o_10 ho_10 => ?_)
  obtain ⟨ho_10_0, ho_10_1, ho_10_2, ho_10_3, ho_10_4, ho_10_5⟩ := ho_10
  refine zw_if (fun c2 => ?_) (fun c2 => ?_)
  · refine zw_zb0 (sf_X12_faults 1 o_6_1 v0_8 v0_9 (by first | with_reducible assumption | exact ⟨by with_reducible assumption, by with_reducible assumption⟩ | first | lia | grind [zu_at, zu_atL, zvn]) (by first | with_reducible assumption | exact ⟨by with_reducible assumption, by with_reducible assumption⟩ | first | lia | grind [zu_at, zu_atL, zvn])) (fun o_15 ho_15 => ?_)
    obtain ⟨o_15_0, o_15_1⟩ := o_15
    try dsimp only at ho_15
    obtain ⟨ho_15_0, ho_15_1, ho_15_2, ho_15_3⟩ := ho_15
    refine zw_some ?_
    first | exact True.intro | ((try dsimp only); (repeat' apply And.intro) <;> first | with_reducible assumption | first | lia | grind [zu_at, zu_atL, zvn])
  refine zw_zb0 (sf_X12_isSmall (o_6_1 - 1) v0_5 f1 (by first | with_reducible assumption | exact ⟨by with_reducible assumption, by with_reducible assumption⟩ | first | lia | grind [zu_at, zu_atL, zvn]) (by first | with_reducible assumption | exact ⟨by with_reducible assumption, by with_reducible assumption⟩ | first | lia | grind [zu_at, zu_atL, zvn])) (fun o_19 ho_19 => ?_)
  obtain ⟨ho_19_0, ho_19_1, ho_19_2, ho_19_3, ho_19_4, ho_19_5⟩ := ho_19
  refine zw_if (fun c3 => ?_) (fun c3 => ?_)
  · refine zw_zb0 (sf_X12_isDigit (o_6_1 - 1) v0_5 f1 (by first | with_reducible assumption | exact ⟨by with_reducible assumption, by with_reducible assumption⟩ | first | lia | grind [zu_at, zu_atL, zvn]) (by first | with_reducible assumption | exact ⟨by with_reducible assumption, by with_reducible assumption⟩ | first | lia | grind [zu_at, zu_atL, zvn])) (fun o_28 ho_28 => ?_)
    obtain ⟨ho_28_0, ho_28_1, ho_28_2, ho_28_3, ho_28_4, ho_28_5⟩ := ho_28
    refine zw_if (fun c4 => ?_) (fun c4 => ?_)
    · refine zw_zl32 (fun s_33 => 0 ≤ s_33 ∧ s_33 ≤ 1200 ∧ s_33 ≤ v0_5 ∧ v0_6 ≤ s_33 ∧ o_6_1 ≤ s_33) (fun s_33 => 1200 - s_33) (by (try dsimp only); (repeat' apply And.intro) <;> first | with_reducible assumption | first | lia | grind [zu_at, zu_atL, zvn]) (by (try dsimp only); first | lia | grind [zu_at, zu_atL, zvn]) (fun s_33 back_33 Hback_33 hback_33 => ?_)
      obtain ⟨Hback_33_0, Hback_33_1, Hback_33_2, Hback_33_3, Hback_33_4⟩ := Hback_33
      refine zw_zb0 (sf_X12_isSmall s_33 v0_5 f1 (by first | with_reducible assumption | exact ⟨by with_reducible assumption, by with_reducible assumption⟩ | first | lia | grind [zu_at, zu_atL, zvn]) (by first | with_reducible assumption | exact ⟨by with_reducible assumption, by with_reducible assumption⟩ | first | lia | grind [zu_at, zu_atL, zvn])) (fun o_34 ho_34 => ?_)
      obtain ⟨ho_34_0, ho_34_1, ho_34_2, ho_34_3, ho_34_4, ho_34_5⟩ := ho_34
      refine zw_if (fun c5 => ?_) (fun c5 => ?_)
      · refine zw_some ?_
        first | exact True.intro | ((try dsimp only); (repeat' apply And.intro) <;> first | with_reducible assumption | first | lia | grind [zu_at, zu_atL, zvn])
      exact hback_33 _ (by (try dsimp only); (repeat' apply And.intro) <;> first | with_reducible assumption | first | lia | grind [zu_at, zu_atL, zvn]) (by (try dsimp only); first | lia | grind [zu_at, zu_atL, zvn]) (by (try dsimp only); first | lia | grind [zu_at, zu_atL, zvn])
    refine zw_zb0 (sf_X12_faults 1 o_6_1 v0_8 v0_9 (by first | with_reducible assumption | exact ⟨by with_reducible assumption, by with_reducible assumption⟩ | first | lia | grind [zu_at, zu_atL, zvn]) (by first | with_reducible assumption | exact ⟨by with_reducible assumption, by with_reducible assumption⟩ | first | lia | grind [zu_at, zu_atL, zvn])) (fun o_39 ho_39 => ?_)
    obtain ⟨o_39_0, o_39_1⟩ := o_39
    try dsimp only at ho_39
    obtain ⟨ho_39_0, ho_39_1, ho_39_2, ho_39_3⟩ := ho_39
    refine zw_some ?_
    first | exact True.intro | ((try dsimp only); (repeat' apply And.intro) <;> first | with_reducible assumption | first | lia | grind [zu_at, zu_atL, zvn])
  refine zw_zb0 (sf_X12_faults 1 o_6_1 v0_8 v0_9 (by first | with_reducible assumption | exact ⟨by with_reducible assumption, by with_reducible assumption⟩ | first | lia | grind [zu_at, zu_atL, zvn]) (by first | with_reducible assumption | exact ⟨by with_reducible assumption, by with_reducible assumption⟩ | first | lia | grind [zu_at, zu_atL, zvn])) (fun o_24 ho_24 => ?_)
  obtain ⟨o_24_0, o_24_1⟩ := o_24
  try dsimp only at ho_24
  obtain ⟨ho_24_0, ho_24_1, ho_24_2, ho_24_3⟩ := ho_24
  refine zw_some ?_
  first | exact True.intro | ((try dsimp only); (repeat' apply And.intro) <;> first | with_reducible assumption | first | lia | grind [zu_at, zu_atL, zvn])
