set_option maxHeartbeats 4000000 in
set_option maxRecDepth 100000 in
theorem sf_X5_readAnswer (v0_1 : Int32) (v0_2 : Int32) (v0_3 : Int32) (v2_2 : Int32) (v2_3 : Int32) (v2_4 : Int32) (v2_5 : Int32) (v2_6 : Int32) (v2_7 : Int32) (v3_0 : Int32) (f4 : Nat → Int32) (f5 : Nat → Int32) (f6 : Nat → Int32) (f7 : Nat → Int32) (h_v2_2 : 0 ≤ v2_2 ∧ v2_2 ≤ 1200) (h_v2_3 : 0 ≤ v2_3 ∧ v2_3 ≤ 1200) (h_v2_4 : 0 ≤ v2_4 ∧ v2_4 ≤ 5) (h_v2_5 : 0 ≤ v2_5 ∧ v2_5 ≤ 1200) (h_v2_7 : (-1) ≤ v2_7 ∧ v2_7 ≤ 12) (h_v3_0 : 0 ≤ v3_0 ∧ v3_0 ≤ 14) : zw (fn_X5_readAnswer v0_1 v0_2 v0_3 v2_2 v2_3 v2_4 v2_5 v2_6 v2_7 v3_0 f4 f5 f6 f7) (fun r => 0 ≤ r.1 ∧ r.1 ≤ 1 ∧ 0 ≤ r.2.2.2.2.1 ∧ r.2.2.2.2.1 ≤ 1200 ∧ 0 ≤ r.2.2.2.2.2.1 ∧ r.2.2.2.2.2.1 ≤ 5 ∧ 0 ≤ r.2.2.2.2.2.2.1 ∧ r.2.2.2.2.2.2.1 ≤ 1200 ∧ (-1) ≤ r.2.2.2.2.2.2.2.2.1 ∧ r.2.2.2.2.2.2.2.2.1 ≤ 12) := by
  unfold fn_X5_readAnswer
  refine zw_zb0 (sf_X4_find v2_6 v3_0 f4 (by first | with_reducible assumption | exact ⟨by with_reducible assumption, by with_reducible assumption⟩ | first | lia | grind [zu_at, zu_atL, zvn])) (fun o_1 ho_1 => ?_)
  obtain ⟨ho_1_0, ho_1_1⟩ := ho_1
  refine zw_zb0 (sf_X5_readKnown o_1 v0_1 v0_2 v0_3 v2_2 v2_3 v2_4 v2_5 v2_6 v2_7 f5 f6 (by first | with_reducible assumption | exact ⟨by with_reducible assumption, by with_reducible assumption⟩ | first | lia | grind [zu_at, zu_atL, zvn]) (by first | with_reducible assumption | exact ⟨by with_reducible assumption, by with_reducible assumption⟩ | first | lia | grind [zu_at, zu_atL, zvn]) (by first | with_reducible assumption | exact ⟨by with_reducible assumption, by with_reducible assumption⟩ | first | lia | grind [zu_at, zu_atL, zvn]) (by first | with_reducible assumption | exact ⟨by with_reducible assumption, by with_reducible assumption⟩ | first | lia | grind [zu_at, zu_atL, zvn]) (by first | with_reducible assumption | exact ⟨by with_reducible assumption, by with_reducible assumption⟩ | first | lia | grind [zu_at, zu_atL, zvn])) (fun o_5 ho_5 => ?_)
  obtain ⟨o_5_0, o_5_1, o_5_2, o_5_3, o_5_4, o_5_5, o_5_6, o_5_7, o_5_8⟩ := o_5
  try dsimp only at ho_5
  obtain ⟨ho_5_0, ho_5_1, ho_5_2, ho_5_3, ho_5_4, ho_5_5, ho_5_6, ho_5_7, ho_5_8, ho_5_9⟩ := ho_5
  refine zw_if (fun c1 => ?_) (fun c1 => ?_)
  · refine zw_some ?_
    first | exact True.intro | ((try dsimp only); first | with_reducible assumption | grind [zu_at, zu_atL, zvn] | ((repeat' apply And.intro) <;> first | with_reducible assumption | first | lia | grind [zu_at, zu_atL, zvn]))
  refine zw_zb0 (sf_X5_readOwn 12 o_5_2 o_5_3 v2_2 o_5_4 o_5_5 o_5_6 o_5_7 o_5_8 f5 f6 (by first | with_reducible assumption | exact ⟨by with_reducible assumption, by with_reducible assumption⟩ | first | lia | grind [zu_at, zu_atL, zvn]) (by first | with_reducible assumption | exact ⟨by with_reducible assumption, by with_reducible assumption⟩ | first | lia | grind [zu_at, zu_atL, zvn]) (by first | with_reducible assumption | exact ⟨by with_reducible assumption, by with_reducible assumption⟩ | first | lia | grind [zu_at, zu_atL, zvn]) (by first | with_reducible assumption | exact ⟨by with_reducible assumption, by with_reducible assumption⟩ | first | lia | grind [zu_at, zu_atL, zvn]) (by first | with_reducible assumption | exact ⟨by with_reducible assumption, by with_reducible assumption⟩ | first | lia | grind [zu_at, zu_atL, zvn])) (fun o_10 ho_10 => ?_)
  obtain ⟨o_10_0, o_10_1, o_10_2, o_10_3, o_10_4, o_10_5, o_10_6, o_10_7⟩ := o_10
  try dsimp only at ho_10
  obtain ⟨ho_10_0, ho_10_1, ho_10_2, ho_10_3, ho_10_4, ho_10_5, ho_10_6, ho_10_7, ho_10_8, ho_10_9⟩ := ho_10
  refine zw_if (fun c2 => ?_) (fun c2 => ?_)
  · refine zw_some ?_
    first | exact True.intro | ((try dsimp only); first | with_reducible assumption | grind [zu_at, zu_atL, zvn] | ((repeat' apply And.intro) <;> first | with_reducible assumption | first | lia | grind [zu_at, zu_atL, zvn]))
  refine zw_zb0 (sf_X5_readValue 0 0 1000000 o_5_1 o_10_1 o_10_2 v2_2 o_10_3 o_10_4 o_10_5 o_10_6 o_10_7 f5 f6 (by first | with_reducible assumption | exact ⟨by with_reducible assumption, by with_reducible assumption⟩ | first | lia | grind [zu_at, zu_atL, zvn]) (by first | with_reducible assumption | exact ⟨by with_reducible assumption, by with_reducible assumption⟩ | first | lia | grind [zu_at, zu_atL, zvn]) (by first | with_reducible assumption | exact ⟨by with_reducible assumption, by with_reducible assumption⟩ | first | lia | grind [zu_at, zu_atL, zvn]) (by first | with_reducible assumption | exact ⟨by with_reducible assumption, by with_reducible assumption⟩ | first | lia | grind [zu_at, zu_atL, zvn]) (by first | with_reducible assumption | exact ⟨by with_reducible assumption, by with_reducible assumption⟩ | first | lia | grind [zu_at, zu_atL, zvn]) (by first | with_reducible assumption | exact ⟨by with_reducible assumption, by with_reducible assumption⟩ | first | lia | grind [zu_at, zu_atL, zvn])) (fun o_15 ho_15 => ?_)
  obtain ⟨o_15_0, o_15_1, o_15_2, o_15_3, o_15_4, o_15_5, o_15_6, o_15_7, o_15_8⟩ := o_15
  try dsimp only at ho_15
  obtain ⟨ho_15_0, ho_15_1, ho_15_2, ho_15_3, ho_15_4, ho_15_5, ho_15_6, ho_15_7, ho_15_8, ho_15_9⟩ := ho_15
  refine zw_if (fun c3 => ?_) (fun c3 => ?_)
  · refine zw_some ?_
    first | exact True.intro | ((try dsimp only); first | with_reducible assumption | grind [zu_at, zu_atL, zvn] | ((repeat' apply And.intro) <;> first | with_reducible assumption | first | lia | grind [zu_at, zu_atL, zvn]))
  refine zw_zb0 (sf_X4_allow o_5_1 o_15_1 v3_0 f7 (by first | with_reducible assumption | exact ⟨by with_reducible assumption, by with_reducible assumption⟩ | first | lia | grind [zu_at, zu_atL, zvn])) (fun o_20 ho_20 => ?_)
  refine zw_some ?_
  first | exact True.intro | ((try dsimp only); first | with_reducible assumption | grind [zu_at, zu_atL, zvn] | ((repeat' apply And.intro) <;> first | with_reducible assumption | first | lia | grind [zu_at, zu_atL, zvn]))
set_option maxHeartbeats 4000000 in
set_option maxRecDepth 100000 in
theorem sf_X5_readCast (v0_1 : Int32) (v0_2 : Int32) (v0_3 : Int32) (v1_2 : Int32) (v1_3 : Int32) (v1_4 : Int32) (v1_5 : Int32) (v1_6 : Int32) (v1_7 : Int32) (f2 : Nat → Int32) (f3 : Nat → Int32) (v4_5 : Int32) (h_v1_2 : 0 ≤ v1_2 ∧ v1_2 ≤ 1200) (h_v1_3 : 0 ≤ v1_3 ∧ v1_3 ≤ 1200) (h_v1_4 : 0 ≤ v1_4 ∧ v1_4 ≤ 5) (h_v1_5 : 0 ≤ v1_5 ∧ v1_5 ≤ 1200) (h_v1_7 : (-1) ≤ v1_7 ∧ v1_7 ≤ 12) : zw (fn_X5_readCast v0_1 v0_2 v0_3 v1_2 v1_3 v1_4 v1_5 v1_6 v1_7 f2 f3 v4_5) (fun r => 0 ≤ r.1 ∧ r.1 ≤ 1 ∧ 0 ≤ r.2.2.2.2.1 ∧ r.2.2.2.2.1 ≤ 1200 ∧ 0 ≤ r.2.2.2.2.2.1 ∧ r.2.2.2.2.2.1 ≤ 5 ∧ 0 ≤ r.2.2.2.2.2.2.1 ∧ r.2.2.2.2.2.2.1 ≤ 1200 ∧ (-1) ≤ r.2.2.2.2.2.2.2.2.1 ∧ r.2.2.2.2.2.2.2.2.1 ≤ 12) := by
  unfold fn_X5_readCast
  refine zw_zb0 (sf_X5_readValue 0 0 999 v0_1 v0_2 v0_3 v1_2 v1_3 v1_4 v1_5 v1_6 v1_7 f2 f3 (by first | with_reducible assumption | exact ⟨by with_reducible assumption, by with_reducible assumption⟩ | first | lia | grind [zu_at, zu_atL, zvn]) (by first | with_reducible assumption | exact ⟨by with_reducible assumption, by with_reducible assumption⟩ | first | lia | grind [zu_at, zu_atL, zvn]) (by first | with_reducible assumption | exact ⟨by with_reducible assumption, by with_reducible assumption⟩ | first | lia | grind [zu_at, zu_atL, zvn]) (by first | with_reducible assumption | exact ⟨by with_reducible assumption, by with_reducible assumption⟩ | first | lia | grind [zu_at, zu_atL, zvn]) (by first | with_reducible assumption | exact ⟨by with_reducible assumption, by with_reducible assumption⟩ | first | lia | grind [zu_at, zu_atL, zvn]) (by first | with_reducible assumption | exact ⟨by with_reducible assumption, by with_reducible assumption⟩ | first | lia | grind [zu_at, zu_atL, zvn])) (fun o_1 ho_1 => ?_)
  obtain ⟨o_1_0, o_1_1, o_1_2, o_1_3, o_1_4, o_1_5, o_1_6, o_1_7, o_1_8⟩ := o_1
  try dsimp only at ho_1
  obtain ⟨ho_1_0, ho_1_1, ho_1_2, ho_1_3, ho_1_4, ho_1_5, ho_1_6, ho_1_7, ho_1_8, ho_1_9⟩ := ho_1
  refine zw_if (fun c1 => ?_) (fun c1 => ?_)
  · refine zw_some ?_
    first | exact True.intro | ((try dsimp only); first | with_reducible assumption | grind [zu_at, zu_atL, zvn] | ((repeat' apply And.intro) <;> first | with_reducible assumption | first | lia | grind [zu_at, zu_atL, zvn]))
  refine zw_some ?_
  first | exact True.intro | ((try dsimp only); first | with_reducible assumption | grind [zu_at, zu_atL, zvn] | ((repeat' apply And.intro) <;> first | with_reducible assumption | first | lia | grind [zu_at, zu_atL, zvn]))
set_option maxHeartbeats 4000000 in
set_option maxRecDepth 100000 in
theorem sf_X5_readBox (v0_1 : Int32) (v0_2 : Int32) (v0_3 : Int32) (v1_2 : Int32) (v1_3 : Int32) (v1_4 : Int32) (v1_5 : Int32) (v1_6 : Int32) (v1_7 : Int32) (v2_0 : Int32) (f3 : Nat → Int32) (v4_0 : Int32) (v4_1 : Int32) (f5 : Nat → Int32) (f6 : Nat → Int32) (f7 : Nat → Int32) (f8 : Nat → Int32) (f9 : Nat → Int32) (f10 : Nat → Int32) (f11 : Nat → Int32) (f12 : Nat → Int32) (f13 : Nat → Int32) (f14 : Nat → Int32) (h_v1_2 : 0 ≤ v1_2 ∧ v1_2 ≤ 1200) (h_v1_3 : 0 ≤ v1_3 ∧ v1_3 ≤ 1200) (h_v1_4 : 0 ≤ v1_4 ∧ v1_4 ≤ 5) (h_v1_5 : 0 ≤ v1_5 ∧ v1_5 ≤ 1200) (h_v1_7 : (-1) ≤ v1_7 ∧ v1_7 ≤ 12) (h_v2_0 : 0 ≤ v2_0 ∧ v2_0 ≤ 4) (h_v4_0 : 0 ≤ v4_0 ∧ v4_0 ≤ 14) : zw (fn_X5_readBox v0_1 v0_2 v0_3 v1_2 v1_3 v1_4 v1_5 v1_6 v1_7 v2_0 f3 v4_0 v4_1 f5 f6 f7 f8 f9 f10 f11 f12 f13 f14) (fun r => 0 ≤ r.1 ∧ r.1 ≤ 1 ∧ 0 ≤ r.2.2.2.2.1 ∧ r.2.2.2.2.1 ≤ 1200 ∧ 0 ≤ r.2.2.2.2.2.1 ∧ r.2.2.2.2.2.1 ≤ 5 ∧ 0 ≤ r.2.2.2.2.2.2.1 ∧ r.2.2.2.2.2.2.1 ≤ 1200 ∧ (-1) ≤ r.2.2.2.2.2.2.2.2.1 ∧ r.2.2.2.2.2.2.2.2.1 ≤ 12 ∧ 0 ≤ r.2.2.2.2.2.2.2.2.2.1 ∧ r.2.2.2.2.2.2.2.2.2.1 ≤ 14) := by
  unfold fn_X5_readBox
  refine zw_zb0 (sf_X5_readNewName v0_1 v0_2 v0_3 v1_2 v1_3 v1_4 v1_5 v1_6 v1_7 v2_0 f3 v4_0 f5 f6 f7 (by first | with_reducible assumption | exact ⟨by with_reducible assumption, by with_reducible assumption⟩ | first | lia | grind [zu_at, zu_atL, zvn]) (by first | with_reducible assumption | exact ⟨by with_reducible assumption, by with_reducible assumption⟩ | first | lia | grind [zu_at, zu_atL, zvn]) (by first | with_reducible assumption | exact ⟨by with_reducible assumption, by with_reducible assumption⟩ | first | lia | grind [zu_at, zu_atL, zvn]) (by first | with_reducible assumption | exact ⟨by with_reducible assumption, by with_reducible assumption⟩ | first | lia | grind [zu_at, zu_atL, zvn]) (by first | with_reducible assumption | exact ⟨by with_reducible assumption, by with_reducible assumption⟩ | first | lia | grind [zu_at, zu_atL, zvn]) (by first | with_reducible assumption | exact ⟨by with_reducible assumption, by with_reducible assumption⟩ | first | lia | grind [zu_at, zu_atL, zvn]) (by first | with_reducible assumption | exact ⟨by with_reducible assumption, by with_reducible assumption⟩ | first | lia | grind [zu_at, zu_atL, zvn])) (fun o_1 ho_1 => ?_)
  obtain ⟨o_1_0, o_1_1, o_1_2, o_1_3, o_1_4, o_1_5, o_1_6, o_1_7, o_1_8⟩ := o_1
  try dsimp only at ho_1
  obtain ⟨ho_1_0, ho_1_1, ho_1_2, ho_1_3, ho_1_4, ho_1_5, ho_1_6, ho_1_7, ho_1_8, ho_1_9⟩ := ho_1
  refine zw_if (fun c1 => ?_) (fun c1 => ?_)
  · refine zw_some ?_
    first | exact True.intro | ((try dsimp only); first | with_reducible assumption | grind [zu_at, zu_atL, zvn] | ((repeat' apply And.intro) <;> first | with_reducible assumption | first | lia | grind [zu_at, zu_atL, zvn]))
  refine zw_zb0 (sf_X5_readValue 1 (-10000000) 10000000 o_1_1 o_1_2 o_1_3 v1_2 o_1_4 o_1_5 o_1_6 o_1_7 o_1_8 f6 f7 (by first | with_reducible assumption | exact ⟨by with_reducible assumption, by with_reducible assumption⟩ | first | lia | grind [zu_at, zu_atL, zvn]) (by first | with_reducible assumption | exact ⟨by with_reducible assumption, by with_reducible assumption⟩ | first | lia | grind [zu_at, zu_atL, zvn]) (by first | with_reducible assumption | exact ⟨by with_reducible assumption, by with_reducible assumption⟩ | first | lia | grind [zu_at, zu_atL, zvn]) (by first | with_reducible assumption | exact ⟨by with_reducible assumption, by with_reducible assumption⟩ | first | lia | grind [zu_at, zu_atL, zvn]) (by first | with_reducible assumption | exact ⟨by with_reducible assumption, by with_reducible assumption⟩ | first | lia | grind [zu_at, zu_atL, zvn]) (by first | with_reducible assumption | exact ⟨by with_reducible assumption, by with_reducible assumption⟩ | first | lia | grind [zu_at, zu_atL, zvn])) (fun o_6 ho_6 => ?_)
  obtain ⟨o_6_0, o_6_1, o_6_2, o_6_3, o_6_4, o_6_5, o_6_6, o_6_7, o_6_8⟩ := o_6
  try dsimp only at ho_6
  obtain ⟨ho_6_0, ho_6_1, ho_6_2, ho_6_3, ho_6_4, ho_6_5, ho_6_6, ho_6_7, ho_6_8, ho_6_9⟩ := ho_6
  refine zw_if (fun c2 => ?_) (fun c2 => ?_)
  · refine zw_some ?_
    first | exact True.intro | ((try dsimp only); first | with_reducible assumption | grind [zu_at, zu_atL, zvn] | ((repeat' apply And.intro) <;> first | with_reducible assumption | first | lia | grind [zu_at, zu_atL, zvn]))
  refine zw_zb0 (sf_X5_readValue 1 o_6_1 10000000 o_6_1 o_6_2 o_6_3 v1_2 o_6_4 o_6_5 o_6_6 o_6_7 o_6_8 f6 f7 (by first | with_reducible assumption | exact ⟨by with_reducible assumption, by with_reducible assumption⟩ | first | lia | grind [zu_at, zu_atL, zvn]) (by first | with_reducible assumption | exact ⟨by with_reducible assumption, by with_reducible assumption⟩ | first | lia | grind [zu_at, zu_atL, zvn]) (by first | with_reducible assumption | exact ⟨by with_reducible assumption, by with_reducible assumption⟩ | first | lia | grind [zu_at, zu_atL, zvn]) (by first | with_reducible assumption | exact ⟨by with_reducible assumption, by with_reducible assumption⟩ | first | lia | grind [zu_at, zu_atL, zvn]) (by first | with_reducible assumption | exact ⟨by with_reducible assumption, by with_reducible assumption⟩ | first | lia | grind [zu_at, zu_atL, zvn]) (by first | with_reducible assumption | exact ⟨by with_reducible assumption, by with_reducible assumption⟩ | first | lia | grind [zu_at, zu_atL, zvn])) (fun o_11 ho_11 => ?_)
  obtain ⟨o_11_0, o_11_1, o_11_2, o_11_3, o_11_4, o_11_5, o_11_6, o_11_7, o_11_8⟩ := o_11
  try dsimp only at ho_11
  obtain ⟨ho_11_0, ho_11_1, ho_11_2, ho_11_3, ho_11_4, ho_11_5, ho_11_6, ho_11_7, ho_11_8, ho_11_9⟩ := ho_11
  refine zw_if (fun c3 => ?_) (fun c3 => ?_)
  · refine zw_some ?_
    first | exact True.intro | ((try dsimp only); first | with_reducible assumption | grind [zu_at, zu_atL, zvn] | ((repeat' apply And.intro) <;> first | with_reducible assumption | first | lia | grind [zu_at, zu_atL, zvn]))
  refine zw_zb0 (sf_X4_prepare 0 (-1) o_6_1 v4_0 f8 f9 (by first | with_reducible assumption | exact ⟨by with_reducible assumption, by with_reducible assumption⟩ | first | lia | grind [zu_at, zu_atL, zvn])) (fun o_16 ho_16 => ?_)
  obtain ⟨o_16_0, o_16_1⟩ := o_16
  try dsimp only at ho_16
  refine zw_zb0 (sf_X4_prepare 1 (-1) o_11_1 v4_0 o_16_0 o_16_1 (by first | with_reducible assumption | exact ⟨by with_reducible assumption, by with_reducible assumption⟩ | first | lia | grind [zu_at, zu_atL, zvn])) (fun o_20 ho_20 => ?_)
  obtain ⟨o_20_0, o_20_1⟩ := o_20
  try dsimp only at ho_20
  refine zw_zb0 (sf_X4_add o_1_1 0 v4_0 v4_1 f5 f10 f11 f12 f13 o_20_0 f14 (by first | with_reducible assumption | exact ⟨by with_reducible assumption, by with_reducible assumption⟩ | first | lia | grind [zu_at, zu_atL, zvn])) (fun o_24 ho_24 => ?_)
  obtain ⟨o_24_0, o_24_1, o_24_2, o_24_3, o_24_4, o_24_5, o_24_6, o_24_7⟩ := o_24
  try dsimp only at ho_24
  obtain ⟨ho_24_0, ho_24_1, ho_24_2⟩ := ho_24
  refine zw_some ?_
  first | exact True.intro | ((try dsimp only); first | with_reducible assumption | grind [zu_at, zu_atL, zvn] | ((repeat' apply And.intro) <;> first | with_reducible assumption | first | lia | grind [zu_at, zu_atL, zvn]))
set_option maxHeartbeats 4000000 in
set_option maxRecDepth 100000 in
theorem sf_X5_readSign (p1 : Int32) (v0_2 : Int32) (v0_3 : Int32) (v1_2 : Int32) (v1_3 : Int32) (v1_4 : Int32) (v1_5 : Int32) (v1_6 : Int32) (v1_7 : Int32) (f2 : Nat → Int32) (f3 : Nat → Int32) (h_v1_2 : 0 ≤ v1_2 ∧ v1_2 ≤ 1200) (h_v1_3 : 0 ≤ v1_3 ∧ v1_3 ≤ 1200) (h_v1_4 : 0 ≤ v1_4 ∧ v1_4 ≤ 5) (h_v1_5 : 0 ≤ v1_5 ∧ v1_5 ≤ 1200) (h_v1_7 : (-1) ≤ v1_7 ∧ v1_7 ≤ 12) : zw (fn_X5_readSign p1 v0_2 v0_3 v1_2 v1_3 v1_4 v1_5 v1_6 v1_7 f2 f3) (fun r => 0 ≤ r.1 ∧ r.1 ≤ 1 ∧ 0 ≤ r.2.2.2.1 ∧ r.2.2.2.1 ≤ 1200 ∧ 0 ≤ r.2.2.2.2.1 ∧ r.2.2.2.2.1 ≤ 5 ∧ 0 ≤ r.2.2.2.2.2.1 ∧ r.2.2.2.2.2.1 ≤ 1200 ∧ (-1) ≤ r.2.2.2.2.2.2.2 ∧ r.2.2.2.2.2.2.2 ≤ 12) := by
  unfold fn_X5_readSign
  refine zw_zb0 (sf_X10_isSign p1 v1_4 v1_6 (by first | with_reducible assumption | exact ⟨by with_reducible assumption, by with_reducible assumption⟩ | first | lia | grind [zu_at, zu_atL, zvn])) (fun o_1 ho_1 => ?_)
  obtain ⟨ho_1_0, ho_1_1, ho_1_2, ho_1_3, ho_1_4, ho_1_5⟩ := ho_1
  refine zw_if (fun c1 => ?_) (fun c1 => ?_)
  · refine zw_zb0 (sf_X5_stopAt 1 v1_5) (fun o_10 ho_10 => ?_)
    obtain ⟨o_10_0, o_10_1, o_10_2⟩ := o_10
    try dsimp only at ho_10
    obtain ⟨ho_10_0, ho_10_1, ho_10_2⟩ := ho_10
    refine zw_some ?_
    first | exact True.intro | ((try dsimp only); first | with_reducible assumption | grind [zu_at, zu_atL, zvn] | ((repeat' apply And.intro) <;> first | with_reducible assumption | first | lia | grind [zu_at, zu_atL, zvn]))
  refine zw_zb0 (sf_X10_advance v1_2 v1_3 v1_4 f2 f3 (by first | with_reducible assumption | exact ⟨by with_reducible assumption, by with_reducible assumption⟩ | first | lia | grind [zu_at, zu_atL, zvn]) (by first | with_reducible assumption | exact ⟨by with_reducible assumption, by with_reducible assumption⟩ | first | lia | grind [zu_at, zu_atL, zvn]) (by first | with_reducible assumption | exact ⟨by with_reducible assumption, by with_reducible assumption⟩ | first | lia | grind [zu_at, zu_atL, zvn])) (fun o_6 ho_6 => ?_)
  obtain ⟨o_6_0, o_6_1, o_6_2, o_6_3, o_6_4⟩ := o_6
  try dsimp only at ho_6
  obtain ⟨ho_6_0, ho_6_1, ho_6_2, ho_6_3, ho_6_4, ho_6_5, ho_6_6, ho_6_7⟩ := ho_6
  refine zw_some ?_
  first | exact True.intro | ((try dsimp only); first | with_reducible assumption | grind [zu_at, zu_atL, zvn] | ((repeat' apply And.intro) <;> first | with_reducible assumption | first | lia | grind [zu_at, zu_atL, zvn]))
set_option maxHeartbeats 4000000 in
set_option maxRecDepth 100000 in
theorem sf_X5_readWhat (p2 : Int32) (v0_1 : Int32) (v0_2 : Int32) (v0_3 : Int32) (v1_2 : Int32) (v1_3 : Int32) (v1_4 : Int32) (v1_5 : Int32) (v1_6 : Int32) (v1_7 : Int32) (f2 : Nat → Int32) (f3 : Nat → Int32) (v5_0 : Int32) (f6 : Nat → Int32) (f7 : Nat → Int32) (f8 : Nat → Int32) (h_v1_2 : 0 ≤ v1_2 ∧ v1_2 ≤ 1200) (h_v1_3 : 0 ≤ v1_3 ∧ v1_3 ≤ 1200) (h_v1_4 : 0 ≤ v1_4 ∧ v1_4 ≤ 5) (h_v1_5 : 0 ≤ v1_5 ∧ v1_5 ≤ 1200) (h_v1_7 : (-1) ≤ v1_7 ∧ v1_7 ≤ 12) (h_v5_0 : 0 ≤ v5_0 ∧ v5_0 ≤ 14) : zw (fn_X5_readWhat p2 v0_1 v0_2 v0_3 v1_2 v1_3 v1_4 v1_5 v1_6 v1_7 f2 f3 v5_0 f6 f7 f8) (fun r => 0 ≤ r.1 ∧ r.1 ≤ 1 ∧ 0 ≤ r.2.2.2.2.1 ∧ r.2.2.2.2.1 ≤ 1200 ∧ 0 ≤ r.2.2.2.2.2.1 ∧ r.2.2.2.2.2.1 ≤ 5 ∧ 0 ≤ r.2.2.2.2.2.2.1 ∧ r.2.2.2.2.2.2.1 ≤ 1200 ∧ (-1) ≤ r.2.2.2.2.2.2.2.2.1 ∧ r.2.2.2.2.2.2.2.2.1 ≤ 12) := by
  unfold fn_X5_readWhat
  refine zw_if (fun c1 => ?_) (fun c1 => ?_)
  · refine zw_zb0 (sf_X4_find v1_6 v5_0 f8 (by first | with_reducible assumption | exact ⟨by with_reducible assumption, by with_reducible assumption⟩ | first | lia | grind [zu_at, zu_atL, zvn])) (fun o_15 ho_15 => ?_)
    obtain ⟨ho_15_0, ho_15_1⟩ := ho_15
    refine zw_zb0 (sf_X5_readKnown o_15 v0_1 v0_2 v0_3 v1_2 v1_3 v1_4 v1_5 v1_6 v1_7 f2 f3 (by first | with_reducible assumption | exact ⟨by with_reducible assumption, by with_reducible assumption⟩ | first | lia | grind [zu_at, zu_atL, zvn]) (by first | with_reducible assumption | exact ⟨by with_reducible assumption, by with_reducible assumption⟩ | first | lia | grind [zu_at, zu_atL, zvn]) (by first | with_reducible assumption | exact ⟨by with_reducible assumption, by with_reducible assumption⟩ | first | lia | grind [zu_at, zu_atL, zvn]) (by first | with_reducible assumption | exact ⟨by with_reducible assumption, by with_reducible assumption⟩ | first | lia | grind [zu_at, zu_atL, zvn]) (by first | with_reducible assumption | exact ⟨by with_reducible assumption, by with_reducible assumption⟩ | first | lia | grind [zu_at, zu_atL, zvn])) (fun o_19 ho_19 => ?_)
    obtain ⟨o_19_0, o_19_1, o_19_2, o_19_3, o_19_4, o_19_5, o_19_6, o_19_7, o_19_8⟩ := o_19
    try dsimp only at ho_19
    obtain ⟨ho_19_0, ho_19_1, ho_19_2, ho_19_3, ho_19_4, ho_19_5, ho_19_6, ho_19_7, ho_19_8, ho_19_9⟩ := ho_19
    refine zw_if (fun c2 => ?_) (fun c2 => ?_)
    · refine zw_zb0 (sf_X4_prepare p2 (-1) 0 v5_0 f6 f7 (by first | with_reducible assumption | exact ⟨by with_reducible assumption, by with_reducible assumption⟩ | first | lia | grind [zu_at, zu_atL, zvn])) (fun o_24 ho_24 => ?_)
      obtain ⟨o_24_0, o_24_1⟩ := o_24
      try dsimp only at ho_24
      refine zw_some ?_
      first | exact True.intro | ((try dsimp only); first | with_reducible assumption | grind [zu_at, zu_atL, zvn] | ((repeat' apply And.intro) <;> first | with_reducible assumption | first | lia | grind [zu_at, zu_atL, zvn]))
    refine zw_zb0 (sf_X4_prepare p2 o_19_1 0 v5_0 f6 f7 (by first | with_reducible assumption | exact ⟨by with_reducible assumption, by with_reducible assumption⟩ | first | lia | grind [zu_at, zu_atL, zvn])) (fun o_28 ho_28 => ?_)
    obtain ⟨o_28_0, o_28_1⟩ := o_28
    try dsimp only at ho_28
    refine zw_some ?_
    first | exact True.intro | ((try dsimp only); first | with_reducible assumption | grind [zu_at, zu_atL, zvn] | ((repeat' apply And.intro) <;> first | with_reducible assumption | first | lia | grind [zu_at, zu_atL, zvn]))
  refine zw_zb0 (sf_X5_readValue 1 (-1000000) 1000000 v0_1 v0_2 v0_3 v1_2 v1_3 v1_4 v1_5 v1_6 v1_7 f2 f3 (by first | with_reducible assumption | exact ⟨by with_reducible assumption, by with_reducible assumption⟩ | first | lia | grind [zu_at, zu_atL, zvn]) (by first | with_reducible assumption | exact ⟨by with_reducible assumption, by with_reducible assumption⟩ | first | lia | grind [zu_at, zu_atL, zvn]) (by first | with_reducible assumption | exact ⟨by with_reducible assumption, by with_reducible assumption⟩ | first | lia | grind [zu_at, zu_atL, zvn]) (by first | with_reducible assumption | exact ⟨by with_reducible assumption, by with_reducible assumption⟩ | first | lia | grind [zu_at, zu_atL, zvn]) (by first | with_reducible assumption | exact ⟨by with_reducible assumption, by with_reducible assumption⟩ | first | lia | grind [zu_at, zu_atL, zvn]) (by first | with_reducible assumption | exact ⟨by with_reducible assumption, by with_reducible assumption⟩ | first | lia | grind [zu_at, zu_atL, zvn])) (fun o_2 ho_2 => ?_)
  obtain ⟨o_2_0, o_2_1, o_2_2, o_2_3, o_2_4, o_2_5, o_2_6, o_2_7, o_2_8⟩ := o_2
  try dsimp only at ho_2
  obtain ⟨ho_2_0, ho_2_1, ho_2_2, ho_2_3, ho_2_4, ho_2_5, ho_2_6, ho_2_7, ho_2_8, ho_2_9⟩ := ho_2
  refine zw_if (fun c3 => ?_) (fun c3 => ?_)
  · refine zw_zb0 (sf_X4_prepare p2 (-1) 0 v5_0 f6 f7 (by first | with_reducible assumption | exact ⟨by with_reducible assumption, by with_reducible assumption⟩ | first | lia | grind [zu_at, zu_atL, zvn])) (fun o_7 ho_7 => ?_)
    obtain ⟨o_7_0, o_7_1⟩ := o_7
    try dsimp only at ho_7
    refine zw_some ?_
    first | exact True.intro | ((try dsimp only); first | with_reducible assumption | grind [zu_at, zu_atL, zvn] | ((repeat' apply And.intro) <;> first | with_reducible assumption | first | lia | grind [zu_at, zu_atL, zvn]))
  refine zw_zb0 (sf_X4_prepare p2 (-1) o_2_1 v5_0 f6 f7 (by first | with_reducible assumption | exact ⟨by with_reducible assumption, by with_reducible assumption⟩ | first | lia | grind [zu_at, zu_atL, zvn])) (fun o_11 ho_11 => ?_)
  obtain ⟨o_11_0, o_11_1⟩ := o_11
  try dsimp only at ho_11
  refine zw_some ?_
  first | exact True.intro | ((try dsimp only); first | with_reducible assumption | grind [zu_at, zu_atL, zvn] | ((repeat' apply And.intro) <;> first | with_reducible assumption | first | lia | grind [zu_at, zu_atL, zvn]))
set_option maxHeartbeats 4000000 in
set_option maxRecDepth 100000 in
theorem sf_X5_readOp (v0_1 : Int32) (v0_2 : Int32) (v0_3 : Int32) (v1_2 : Int32) (v1_3 : Int32) (v1_4 : Int32) (v1_5 : Int32) (v1_6 : Int32) (v1_7 : Int32) (f2 : Nat → Int32) (f3 : Nat → Int32) (h_v1_2 : 0 ≤ v1_2 ∧ v1_2 ≤ 1200) (h_v1_3 : 0 ≤ v1_3 ∧ v1_3 ≤ 1200) (h_v1_4 : 0 ≤ v1_4 ∧ v1_4 ≤ 5) (h_v1_5 : 0 ≤ v1_5 ∧ v1_5 ≤ 1200) (h_v1_7 : (-1) ≤ v1_7 ∧ v1_7 ≤ 12) : zw (fn_X5_readOp v0_1 v0_2 v0_3 v1_2 v1_3 v1_4 v1_5 v1_6 v1_7 f2 f3) (fun r => 0 ≤ r.1 ∧ r.1 ≤ 1 ∧ 0 ≤ r.2.2.2.2.1 ∧ r.2.2.2.2.1 ≤ 1200 ∧ 0 ≤ r.2.2.2.2.2.1 ∧ r.2.2.2.2.2.1 ≤ 5 ∧ 0 ≤ r.2.2.2.2.2.2.1 ∧ r.2.2.2.2.2.2.1 ≤ 1200 ∧ (-1) ≤ r.2.2.2.2.2.2.2.2 ∧ r.2.2.2.2.2.2.2.2 ≤ 12) := by
  unfold fn_X5_readOp
  refine zw_zb0 (sf_X10_isSign 43 v1_4 v1_6 (by first | with_reducible assumption | exact ⟨by with_reducible assumption, by with_reducible assumption⟩ | first | lia | grind [zu_at, zu_atL, zvn])) (fun o_1 ho_1 => ?_)
  obtain ⟨ho_1_0, ho_1_1, ho_1_2, ho_1_3, ho_1_4, ho_1_5⟩ := ho_1
  refine zw_if (fun c1 => ?_) (fun c1 => ?_)
  · refine zw_zb0 (sf_X10_isSign 45 v1_4 v1_6 (by first | with_reducible assumption | exact ⟨by with_reducible assumption, by with_reducible assumption⟩ | first | lia | grind [zu_at, zu_atL, zvn])) (fun o_6 ho_6 => ?_)
    obtain ⟨ho_6_0, ho_6_1, ho_6_2, ho_6_3, ho_6_4, ho_6_5⟩ := ho_6
    refine zw_if (fun c2 => ?_) (fun c2 => ?_)
    · refine zw_zb0 (sf_X10_isSign 42 v1_4 v1_6 (by first | with_reducible assumption | exact ⟨by with_reducible assumption, by with_reducible assumption⟩ | first | lia | grind [zu_at, zu_atL, zvn])) (fun o_11 ho_11 => ?_)
      obtain ⟨ho_11_0, ho_11_1, ho_11_2, ho_11_3, ho_11_4, ho_11_5⟩ := ho_11
      refine zw_if (fun c3 => ?_) (fun c3 => ?_)
      · refine zw_zb0 (sf_X10_isOwn 7 v1_4 v1_7 (by first | with_reducible assumption | exact ⟨by with_reducible assumption, by with_reducible assumption⟩ | first | lia | grind [zu_at, zu_atL, zvn]) (by first | with_reducible assumption | exact ⟨by with_reducible assumption, by with_reducible assumption⟩ | first | lia | grind [zu_at, zu_atL, zvn])) (fun o_16 ho_16 => ?_)
        obtain ⟨ho_16_0, ho_16_1, ho_16_2, ho_16_3, ho_16_4, ho_16_5, ho_16_6⟩ := ho_16
        refine zw_if (fun c4 => ?_) (fun c4 => ?_)
        · refine zw_zb0 (sf_X10_isOwn 8 v1_4 v1_7 (by first | with_reducible assumption | exact ⟨by with_reducible assumption, by with_reducible assumption⟩ | first | lia | grind [zu_at, zu_atL, zvn]) (by first | with_reducible assumption | exact ⟨by with_reducible assumption, by with_reducible assumption⟩ | first | lia | grind [zu_at, zu_atL, zvn])) (fun o_21 ho_21 => ?_)
          obtain ⟨ho_21_0, ho_21_1, ho_21_2, ho_21_3, ho_21_4, ho_21_5, ho_21_6⟩ := ho_21
          refine zw_if (fun c5 => ?_) (fun c5 => ?_)
          · refine zw_zb0 (sf_X5_stopAt 1 v1_5) (fun o_26 ho_26 => ?_)
            obtain ⟨o_26_0, o_26_1, o_26_2⟩ := o_26
            try dsimp only at ho_26
            obtain ⟨ho_26_0, ho_26_1, ho_26_2⟩ := ho_26
            refine zw_some ?_
            first | exact True.intro | ((try dsimp only); first | with_reducible assumption | grind [zu_at, zu_atL, zvn] | ((repeat' apply And.intro) <;> first | with_reducible assumption | first | lia | grind [zu_at, zu_atL, zvn]))
          refine zw_zb0 (sf_X10_advance v1_2 v1_3 v1_4 f2 f3 (by first | with_reducible assumption | exact ⟨by with_reducible assumption, by with_reducible assumption⟩ | first | lia | grind [zu_at, zu_atL, zvn]) (by first | with_reducible assumption | exact ⟨by with_reducible assumption, by with_reducible assumption⟩ | first | lia | grind [zu_at, zu_atL, zvn]) (by first | with_reducible assumption | exact ⟨by with_reducible assumption, by with_reducible assumption⟩ | first | lia | grind [zu_at, zu_atL, zvn])) (fun o_30 ho_30 => ?_)
          obtain ⟨o_30_0, o_30_1, o_30_2, o_30_3, o_30_4⟩ := o_30
          try dsimp only at ho_30
          obtain ⟨ho_30_0, ho_30_1, ho_30_2, ho_30_3, ho_30_4, ho_30_5, ho_30_6, ho_30_7⟩ := ho_30
          refine zw_some ?_
          first | exact True.intro | ((try dsimp only); first | with_reducible assumption | grind [zu_at, zu_atL, zvn] | ((repeat' apply And.intro) <;> first | with_reducible assumption | first | lia | grind [zu_at, zu_atL, zvn]))
        refine zw_zb0 (sf_X10_advance v1_2 v1_3 v1_4 f2 f3 (by first | with_reducible assumption | exact ⟨by with_reducible assumption, by with_reducible assumption⟩ | first | lia | grind [zu_at, zu_atL, zvn]) (by first | with_reducible assumption | exact ⟨by with_reducible assumption, by with_reducible assumption⟩ | first | lia | grind [zu_at, zu_atL, zvn]) (by first | with_reducible assumption | exact ⟨by with_reducible assumption, by with_reducible assumption⟩ | first | lia | grind [zu_at, zu_atL, zvn])) (fun o_34 ho_34 => ?_)
        obtain ⟨o_34_0, o_34_1, o_34_2, o_34_3, o_34_4⟩ := o_34
        try dsimp only at ho_34
        obtain ⟨ho_34_0, ho_34_1, ho_34_2, ho_34_3, ho_34_4, ho_34_5, ho_34_6, ho_34_7⟩ := ho_34
        refine zw_some ?_
        first | exact True.intro | ((try dsimp only); first | with_reducible assumption | grind [zu_at, zu_atL, zvn] | ((repeat' apply And.intro) <;> first | with_reducible assumption | first | lia | grind [zu_at, zu_atL, zvn]))
      refine zw_zb0 (sf_X10_advance v1_2 v1_3 v1_4 f2 f3 (by first | with_reducible assumption | exact ⟨by with_reducible assumption, by with_reducible assumption⟩ | first | lia | grind [zu_at, zu_atL, zvn]) (by first | with_reducible assumption | exact ⟨by with_reducible assumption, by with_reducible assumption⟩ | first | lia | grind [zu_at, zu_atL, zvn]) (by first | with_reducible assumption | exact ⟨by with_reducible assumption, by with_reducible assumption⟩ | first | lia | grind [zu_at, zu_atL, zvn])) (fun o_38 ho_38 => ?_)
      obtain ⟨o_38_0, o_38_1, o_38_2, o_38_3, o_38_4⟩ := o_38
      try dsimp only at ho_38
      obtain ⟨ho_38_0, ho_38_1, ho_38_2, ho_38_3, ho_38_4, ho_38_5, ho_38_6, ho_38_7⟩ := ho_38
      refine zw_some ?_
      first | exact True.intro | ((try dsimp only); first | with_reducible assumption | grind [zu_at, zu_atL, zvn] | ((repeat' apply And.intro) <;> first | with_reducible assumption | first | lia | grind [zu_at, zu_atL, zvn]))
    refine zw_zb0 (sf_X10_advance v1_2 v1_3 v1_4 f2 f3 (by first | with_reducible assumption | exact ⟨by with_reducible assumption, by with_reducible assumption⟩ | first | lia | grind [zu_at, zu_atL, zvn]) (by first | with_reducible assumption | exact ⟨by with_reducible assumption, by with_reducible assumption⟩ | first | lia | grind [zu_at, zu_atL, zvn]) (by first | with_reducible assumption | exact ⟨by with_reducible assumption, by with_reducible assumption⟩ | first | lia | grind [zu_at, zu_atL, zvn])) (fun o_42 ho_42 => ?_)
    obtain ⟨o_42_0, o_42_1, o_42_2, o_42_3, o_42_4⟩ := o_42
    try dsimp only at ho_42
    obtain ⟨ho_42_0, ho_42_1, ho_42_2, ho_42_3, ho_42_4, ho_42_5, ho_42_6, ho_42_7⟩ := ho_42
    refine zw_some ?_
    first | exact True.intro | ((try dsimp only); first | with_reducible assumption | grind [zu_at, zu_atL, zvn] | ((repeat' apply And.intro) <;> first | with_reducible assumption | first | lia | grind [zu_at, zu_atL, zvn]))
  refine zw_zb0 (sf_X10_advance v1_2 v1_3 v1_4 f2 f3 (by first | with_reducible assumption | exact ⟨by with_reducible assumption, by with_reducible assumption⟩ | first | lia | grind [zu_at, zu_atL, zvn]) (by first | with_reducible assumption | exact ⟨by with_reducible assumption, by with_reducible assumption⟩ | first | lia | grind [zu_at, zu_atL, zvn]) (by first | with_reducible assumption | exact ⟨by with_reducible assumption, by with_reducible assumption⟩ | first | lia | grind [zu_at, zu_atL, zvn])) (fun o_46 ho_46 => ?_)
  obtain ⟨o_46_0, o_46_1, o_46_2, o_46_3, o_46_4⟩ := o_46
  try dsimp only at ho_46
  obtain ⟨ho_46_0, ho_46_1, ho_46_2, ho_46_3, ho_46_4, ho_46_5, ho_46_6, ho_46_7⟩ := ho_46
  refine zw_some ?_
  first | exact True.intro | ((try dsimp only); first | with_reducible assumption | grind [zu_at, zu_atL, zvn] | ((repeat' apply And.intro) <;> first | with_reducible assumption | first | lia | grind [zu_at, zu_atL, zvn]))
set_option maxHeartbeats 4000000 in
set_option maxRecDepth 100000 in
theorem sf_X5_readLet (v0_1 : Int32) (v0_2 : Int32) (v0_3 : Int32) (v1_2 : Int32) (v1_3 : Int32) (v1_4 : Int32) (v1_5 : Int32) (v1_6 : Int32) (v1_7 : Int32) (v2_0 : Int32) (f3 : Nat → Int32) (v4_0 : Int32) (v4_1 : Int32) (f5 : Nat → Int32) (f6 : Nat → Int32) (f7 : Nat → Int32) (f8 : Nat → Int32) (f9 : Nat → Int32) (f10 : Nat → Int32) (f11 : Nat → Int32) (f12 : Nat → Int32) (f13 : Nat → Int32) (f14 : Nat → Int32) (h_v1_2 : 0 ≤ v1_2 ∧ v1_2 ≤ 1200) (h_v1_3 : 0 ≤ v1_3 ∧ v1_3 ≤ 1200) (h_v1_4 : 0 ≤ v1_4 ∧ v1_4 ≤ 5) (h_v1_5 : 0 ≤ v1_5 ∧ v1_5 ≤ 1200) (h_v1_7 : (-1) ≤ v1_7 ∧ v1_7 ≤ 12) (h_v2_0 : 0 ≤ v2_0 ∧ v2_0 ≤ 4) (h_v4_0 : 0 ≤ v4_0 ∧ v4_0 ≤ 14) : zw (fn_X5_readLet v0_1 v0_2 v0_3 v1_2 v1_3 v1_4 v1_5 v1_6 v1_7 v2_0 f3 v4_0 v4_1 f5 f6 f7 f8 f9 f10 f11 f12 f13 f14) (fun r => 0 ≤ r.1 ∧ r.1 ≤ 1 ∧ 0 ≤ r.2.2.2.2.1 ∧ r.2.2.2.2.1 ≤ 1200 ∧ 0 ≤ r.2.2.2.2.2.1 ∧ r.2.2.2.2.2.1 ≤ 5 ∧ 0 ≤ r.2.2.2.2.2.2.1 ∧ r.2.2.2.2.2.2.1 ≤ 1200 ∧ (-1) ≤ r.2.2.2.2.2.2.2.2.1 ∧ r.2.2.2.2.2.2.2.2.1 ≤ 12 ∧ 0 ≤ r.2.2.2.2.2.2.2.2.2.1 ∧ r.2.2.2.2.2.2.2.2.2.1 ≤ 14) := by
  unfold fn_X5_readLet
  refine zw_zb0 (sf_X5_readNewName v0_1 v0_2 v0_3 v1_2 v1_3 v1_4 v1_5 v1_6 v1_7 v2_0 f3 v4_0 f5 f6 f7 (by first | with_reducible assumption | exact ⟨by with_reducible assumption, by with_reducible assumption⟩ | first | lia | grind [zu_at, zu_atL, zvn]) (by first | with_reducible assumption | exact ⟨by with_reducible assumption, by with_reducible assumption⟩ | first | lia | grind [zu_at, zu_atL, zvn]) (by first | with_reducible assumption | exact ⟨by with_reducible assumption, by with_reducible assumption⟩ | first | lia | grind [zu_at, zu_atL, zvn]) (by first | with_reducible assumption | exact ⟨by with_reducible assumption, by with_reducible assumption⟩ | first | lia | grind [zu_at, zu_atL, zvn]) (by first | with_reducible assumption | exact ⟨by with_reducible assumption, by with_reducible assumption⟩ | first | lia | grind [zu_at, zu_atL, zvn]) (by first | with_reducible assumption | exact ⟨by with_reducible assumption, by with_reducible assumption⟩ | first | lia | grind [zu_at, zu_atL, zvn]) (by first | with_reducible assumption | exact ⟨by with_reducible assumption, by with_reducible assumption⟩ | first | lia | grind [zu_at, zu_atL, zvn])) (fun o_1 ho_1 => ?_)
  obtain ⟨o_1_0, o_1_1, o_1_2, o_1_3, o_1_4, o_1_5, o_1_6, o_1_7, o_1_8⟩ := o_1
  try dsimp only at ho_1
  obtain ⟨ho_1_0, ho_1_1, ho_1_2, ho_1_3, ho_1_4, ho_1_5, ho_1_6, ho_1_7, ho_1_8, ho_1_9⟩ := ho_1
  refine zw_if (fun c1 => ?_) (fun c1 => ?_)
  · refine zw_some ?_
    first | exact True.intro | ((try dsimp only); first | with_reducible assumption | grind [zu_at, zu_atL, zvn] | ((repeat' apply And.intro) <;> first | with_reducible assumption | first | lia | grind [zu_at, zu_atL, zvn]))
  refine zw_zb0 (sf_X5_readSign 61 o_1_2 o_1_3 v1_2 o_1_4 o_1_5 o_1_6 o_1_7 o_1_8 f6 f7 (by first | with_reducible assumption | exact ⟨by with_reducible assumption, by with_reducible assumption⟩ | first | lia | grind [zu_at, zu_atL, zvn]) (by first | with_reducible assumption | exact ⟨by with_reducible assumption, by with_reducible assumption⟩ | first | lia | grind [zu_at, zu_atL, zvn]) (by first | with_reducible assumption | exact ⟨by with_reducible assumption, by with_reducible assumption⟩ | first | lia | grind [zu_at, zu_atL, zvn]) (by first | with_reducible assumption | exact ⟨by with_reducible assumption, by with_reducible assumption⟩ | first | lia | grind [zu_at, zu_atL, zvn]) (by first | with_reducible assumption | exact ⟨by with_reducible assumption, by with_reducible assumption⟩ | first | lia | grind [zu_at, zu_atL, zvn])) (fun o_6 ho_6 => ?_)
  obtain ⟨o_6_0, o_6_1, o_6_2, o_6_3, o_6_4, o_6_5, o_6_6, o_6_7⟩ := o_6
  try dsimp only at ho_6
  obtain ⟨ho_6_0, ho_6_1, ho_6_2, ho_6_3, ho_6_4, ho_6_5, ho_6_6, ho_6_7, ho_6_8, ho_6_9⟩ := ho_6
  refine zw_if (fun c2 => ?_) (fun c2 => ?_)
  · refine zw_some ?_
    first | exact True.intro | ((try dsimp only); first | with_reducible assumption | grind [zu_at, zu_atL, zvn] | ((repeat' apply And.intro) <;> first | with_reducible assumption | first | lia | grind [zu_at, zu_atL, zvn]))
  refine zw_zb0 (sf_X5_readWhat 0 o_1_1 o_6_1 o_6_2 v1_2 o_6_3 o_6_4 o_6_5 o_6_6 o_6_7 f6 f7 v4_0 f8 f9 f5 (by first | with_reducible assumption | exact ⟨by with_reducible assumption, by with_reducible assumption⟩ | first | lia | grind [zu_at, zu_atL, zvn]) (by first | with_reducible assumption | exact ⟨by with_reducible assumption, by with_reducible assumption⟩ | first | lia | grind [zu_at, zu_atL, zvn]) (by first | with_reducible assumption | exact ⟨by with_reducible assumption, by with_reducible assumption⟩ | first | lia | grind [zu_at, zu_atL, zvn]) (by first | with_reducible assumption | exact ⟨by with_reducible assumption, by with_reducible assumption⟩ | first | lia | grind [zu_at, zu_atL, zvn]) (by first | with_reducible assumption | exact ⟨by with_reducible assumption, by with_reducible assumption⟩ | first | lia | grind [zu_at, zu_atL, zvn]) (by first | with_reducible assumption | exact ⟨by with_reducible assumption, by with_reducible assumption⟩ | first | lia | grind [zu_at, zu_atL, zvn])) (fun o_11 ho_11 => ?_)
  obtain ⟨o_11_0, o_11_1, o_11_2, o_11_3, o_11_4, o_11_5, o_11_6, o_11_7, o_11_8, o_11_9, o_11_10⟩ := o_11
  try dsimp only at ho_11
  obtain ⟨ho_11_0, ho_11_1, ho_11_2, ho_11_3, ho_11_4, ho_11_5, ho_11_6, ho_11_7, ho_11_8, ho_11_9⟩ := ho_11
  refine zw_if (fun c3 => ?_) (fun c3 => ?_)
  · refine zw_some ?_
    first | exact True.intro | ((try dsimp only); first | with_reducible assumption | grind [zu_at, zu_atL, zvn] | ((repeat' apply And.intro) <;> first | with_reducible assumption | first | lia | grind [zu_at, zu_atL, zvn]))
  refine zw_zb0 (sf_X5_readOp o_11_1 o_11_2 o_11_3 v1_2 o_11_4 o_11_5 o_11_6 o_11_7 o_11_8 f6 f7 (by first | with_reducible assumption | exact ⟨by with_reducible assumption, by with_reducible assumption⟩ | first | lia | grind [zu_at, zu_atL, zvn]) (by first | with_reducible assumption | exact ⟨by with_reducible assumption, by with_reducible assumption⟩ | first | lia | grind [zu_at, zu_atL, zvn]) (by first | with_reducible assumption | exact ⟨by with_reducible assumption, by with_reducible assumption⟩ | first | lia | grind [zu_at, zu_atL, zvn]) (by first | with_reducible assumption | exact ⟨by with_reducible assumption, by with_reducible assumption⟩ | first | lia | grind [zu_at, zu_atL, zvn]) (by first | with_reducible assumption | exact ⟨by with_reducible assumption, by with_reducible assumption⟩ | first | lia | grind [zu_at, zu_atL, zvn])) (fun o_16 ho_16 => ?_)
  obtain ⟨o_16_0, o_16_1, o_16_2, o_16_3, o_16_4, o_16_5, o_16_6, o_16_7, o_16_8⟩ := o_16
  try dsimp only at ho_16
  obtain ⟨ho_16_0, ho_16_1, ho_16_2, ho_16_3, ho_16_4, ho_16_5, ho_16_6, ho_16_7, ho_16_8, ho_16_9⟩ := ho_16
  refine zw_if (fun c4 => ?_) (fun c4 => ?_)
  · refine zw_some ?_
    first | exact True.intro | ((try dsimp only); first | with_reducible assumption | grind [zu_at, zu_atL, zvn] | ((repeat' apply And.intro) <;> first | with_reducible assumption | first | lia | grind [zu_at, zu_atL, zvn]))
  refine zw_zb0 (sf_X5_readWhat 1 o_16_1 o_16_2 o_16_3 v1_2 o_16_4 o_16_5 o_16_6 o_16_7 o_16_8 f6 f7 v4_0 o_11_9 o_11_10 f5 (by first | with_reducible assumption | exact ⟨by with_reducible assumption, by with_reducible assumption⟩ | first | lia | grind [zu_at, zu_atL, zvn]) (by first | with_reducible assumption | exact ⟨by with_reducible assumption, by with_reducible assumption⟩ | first | lia | grind [zu_at, zu_atL, zvn]) (by first | with_reducible assumption | exact ⟨by with_reducible assumption, by with_reducible assumption⟩ | first | lia | grind [zu_at, zu_atL, zvn]) (by first | with_reducible assumption | exact ⟨by with_reducible assumption, by with_reducible assumption⟩ | first | lia | grind [zu_at, zu_atL, zvn]) (by first | with_reducible assumption | exact ⟨by with_reducible assumption, by with_reducible assumption⟩ | first | lia | grind [zu_at, zu_atL, zvn]) (by first | with_reducible assumption | exact ⟨by with_reducible assumption, by with_reducible assumption⟩ | first | lia | grind [zu_at, zu_atL, zvn])) (fun o_21 ho_21 => ?_)
  obtain ⟨o_21_0, o_21_1, o_21_2, o_21_3, o_21_4, o_21_5, o_21_6, o_21_7, o_21_8, o_21_9, o_21_10⟩ := o_21
  try dsimp only at ho_21
  obtain ⟨ho_21_0, ho_21_1, ho_21_2, ho_21_3, ho_21_4, ho_21_5, ho_21_6, ho_21_7, ho_21_8, ho_21_9⟩ := ho_21
  refine zw_if (fun c5 => ?_) (fun c5 => ?_)
  · refine zw_some ?_
    first | exact True.intro | ((try dsimp only); first | with_reducible assumption | grind [zu_at, zu_atL, zvn] | ((repeat' apply And.intro) <;> first | with_reducible assumption | first | lia | grind [zu_at, zu_atL, zvn]))
  refine zw_zb0 (sf_X4_add o_1_1 o_16_1 v4_0 v4_1 f5 f10 f11 f12 f13 o_21_9 f14 (by first | with_reducible assumption | exact ⟨by with_reducible assumption, by with_reducible assumption⟩ | first | lia | grind [zu_at, zu_atL, zvn])) (fun o_26 ho_26 => ?_)
  obtain ⟨o_26_0, o_26_1, o_26_2, o_26_3, o_26_4, o_26_5, o_26_6, o_26_7⟩ := o_26
  try dsimp only at ho_26
  obtain ⟨ho_26_0, ho_26_1, ho_26_2⟩ := ho_26
  refine zw_some ?_
  first | exact True.intro | ((try dsimp only); first | with_reducible assumption | grind [zu_at, zu_atL, zvn] | ((repeat' apply And.intro) <;> first | with_reducible assumption | first | lia | grind [zu_at, zu_atL, zvn]))
