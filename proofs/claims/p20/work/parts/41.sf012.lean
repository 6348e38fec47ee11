set_option maxHeartbeats 4000000 in
set_option maxRecDepth 100000 in
theorem sf_X11_least (p1 : Int32) (p2 : Int32) (v1_0 : Int32) (v1_5 : Int32) (v2_0 : Int32) (f3 : Nat → Int32) (v4_2 : Int32) (v4_3 : Int32) (v4_6 : Int32) (v4_7 : Int32) (v4_8 : Int32) (v5_0 : Int32) (v5_1 : Int32) (v5_2 : Int32) (n6 : Nat) (f6 : Nat → Int32) (n7 : Nat) (f7 : Nat → Int32) (n8 : Nat) (f8 : Nat → Int32) (n9 : Nat) (f9 : Nat → Int32) (n10 : Nat) (f10 : Nat → Int32) (f11 : Nat → Int32) (f12 : Nat → Int32) (v13_1 : Int32) (v13_2 : Int32) (f14 : Nat → Int32) (f15 : Nat → Int32) (f16 : Nat → Int32) (f17 : Nat → Int32) (f18 : Nat → Int64) (f19 : Nat → Int32) (f21 : Nat → Int64) (f22 : Nat → Int64) (f23 : Nat → Int32) (f24 : Nat → Int32) (h_v1_0 : 0 ≤ v1_0 ∧ v1_0 ≤ 4) (h_v2_0 : 0 ≤ v2_0 ∧ v2_0 ≤ 14) (h_v4_2 : 0 ≤ v4_2 ∧ v4_2 ≤ 1) (h_v4_3 : 0 ≤ v4_3 ∧ v4_3 ≤ 14) (h_v4_6 : 0 ≤ v4_6 ∧ v4_6 ≤ 1024) (h_v5_0 : 0 ≤ v5_0 ∧ v5_0 ≤ 14) (h_v5_1 : 0 ≤ v5_1 ∧ v5_1 ≤ 14) (h_v5_2 : 0 ≤ v5_2 ∧ v5_2 ≤ 1) (h_n6 : n6 ≤ 1024) (hN_n6 : 0 ≤ Int32.ofNat n6 ∧ Int32.ofNat n6 ≤ 1024) (h_n7 : n7 ≤ 14336) (hN_n7 : 0 ≤ Int32.ofNat n7 ∧ Int32.ofNat n7 ≤ 14336) (h_n8 : n8 ≤ 1024) (hN_n8 : 0 ≤ Int32.ofNat n8 ∧ Int32.ofNat n8 ≤ 1024) (h_n9 : n9 ≤ 1024) (hN_n9 : 0 ≤ Int32.ofNat n9 ∧ Int32.ofNat n9 ≤ 1024) (h_n10 : n10 ≤ 1024) (hN_n10 : 0 ≤ Int32.ofNat n10 ∧ Int32.ofNat n10 ≤ 1024) (h_f14 : (∀ i : Nat, 0 ≤ f14 i ∧ f14 i ≤ 13)) (hr_0 : v4_6 ≤ (Int32.ofNat n6)) (hr_1 : (Int32.ofNat n6) ≤ (Int32.ofNat n9)) (hr_2 : (Int32.ofNat n6) ≤ (Int32.ofNat n8)) (hr_3 : (Int32.ofNat n6) ≤ (Int32.ofNat n10)) (hr_4 : (Int32.ofNat n9) ≤ (Int32.ofNat n6)) (hr_5 : (Int32.ofNat n8) ≤ (Int32.ofNat n6)) (hr_6 : (Int32.ofNat n10) ≤ (Int32.ofNat n6)) : zw (fn_X11_least p1 p2 v1_0 v1_5 v2_0 f3 v4_2 v4_3 v4_6 v4_7 v4_8 v5_0 v5_1 v5_2 n6 f6 n7 f7 n8 f8 n9 f9 n10 f10 f11 f12 v13_1 v13_2 f14 f15 f16 f17 f18 f19 f21 f22 f23 f24) (fun r => 0 ≤ r.2.1 ∧ r.2.1 ≤ 1 ∧ 0 ≤ r.2.2.1 ∧ r.2.2.1 ≤ 14 ∧ 0 ≤ r.2.2.2.1 ∧ r.2.2.2.1 ≤ 1024 ∧ r.2.2.2.2.2.2.2.1 ≤ 1024 ∧ 0 ≤ Int32.ofNat r.2.2.2.2.2.2.2.1 ∧ Int32.ofNat r.2.2.2.2.2.2.2.1 ≤ 1024 ∧ r.2.2.2.2.2.2.2.2.2.1 ≤ 14336 ∧ 0 ≤ Int32.ofNat r.2.2.2.2.2.2.2.2.2.1 ∧ Int32.ofNat r.2.2.2.2.2.2.2.2.2.1 ≤ 14336 ∧ r.2.2.2.2.2.2.2.2.2.2.2.1 ≤ 1024 ∧ 0 ≤ Int32.ofNat r.2.2.2.2.2.2.2.2.2.2.2.1 ∧ Int32.ofNat r.2.2.2.2.2.2.2.2.2.2.2.1 ≤ 1024 ∧ r.2.2.2.2.2.2.2.2.2.2.2.2.2.1 ≤ 1024 ∧ 0 ≤ Int32.ofNat r.2.2.2.2.2.2.2.2.2.2.2.2.2.1 ∧ Int32.ofNat r.2.2.2.2.2.2.2.2.2.2.2.2.2.1 ≤ 1024 ∧ r.2.2.2.2.2.2.2.2.2.2.2.2.2.2.2.1 ≤ 1024 ∧ 0 ≤ Int32.ofNat r.2.2.2.2.2.2.2.2.2.2.2.2.2.2.2.1 ∧ Int32.ofNat r.2.2.2.2.2.2.2.2.2.2.2.2.2.2.2.1 ≤ 1024 ∧ r.2.2.2.1 ≤ (Int32.ofNat r.2.2.2.2.2.2.2.1) ∧ (Int32.ofNat r.2.2.2.2.2.2.2.1) ≤ (Int32.ofNat r.2.2.2.2.2.2.2.2.2.2.2.2.2.1) ∧ (Int32.ofNat r.2.2.2.2.2.2.2.1) ≤ (Int32.ofNat r.2.2.2.2.2.2.2.2.2.2.2.1) ∧ (Int32.ofNat r.2.2.2.2.2.2.2.1) ≤ (Int32.ofNat r.2.2.2.2.2.2.2.2.2.2.2.2.2.2.2.1) ∧ (Int32.ofNat r.2.2.2.2.2.2.2.2.2.2.2.2.2.1) ≤ (Int32.ofNat r.2.2.2.2.2.2.2.1) ∧ (Int32.ofNat r.2.2.2.2.2.2.2.2.2.2.2.1) ≤ (Int32.ofNat r.2.2.2.2.2.2.2.1) ∧ (Int32.ofNat r.2.2.2.2.2.2.2.2.2.2.2.2.2.2.2.1) ≤ (Int32.ofNat r.2.2.2.2.2.2.2.1) ∧ (Int32.ofNat n6) ≤ (Int32.ofNat r.2.2.2.2.2.2.2.1)) := by
  unfold fn_X11_least
  refine zw_zb0 (sf_X9_isAnswer p1 v2_0 f3 (by first | with_reducible assumption | exact ⟨by with_reducible assumption, by with_reducible assumption⟩ | first | lia | grind [zu_at, zu_atL, zvn])) (fun o_1 ho_1 => ?_)
  obtain ⟨ho_1_0, ho_1_1, ho_1_2, ho_1_3, ho_1_4, ho_1_5⟩ := ho_1
  refine zw_if (fun c1 => ?_) (fun c1 => ?_)
  · refine zw_some ?_
    first | exact True.intro | ((try dsimp only); (repeat' apply And.intro) <;> first | with_reducible assumption | first | lia | grind [zu_at, zu_atL, zvn])
  refine zw_zb0 (sf_X1_search v4_2 v4_3 v4_6 v4_7 v4_8 v1_0 v1_5 v2_0 v5_0 v5_1 v5_2 f3 n6 f6 n7 f7 n8 f8 n9 f9 n10 f10 f11 f12 v13_1 v13_2 f14 f15 f16 f17 f18 f19 f21 f22 f23 f24 (by first | with_reducible assumption | exact ⟨by with_reducible assumption, by with_reducible assumption⟩ | first | lia | grind [zu_at, zu_atL, zvn]) (by first | with_reducible assumption | exact ⟨by with_reducible assumption, by with_reducible assumption⟩ | first | lia | grind [zu_at, zu_atL, zvn]) (by first | with_reducible assumption | exact ⟨by with_reducible assumption, by with_reducible assumption⟩ | first | lia | grind [zu_at, zu_atL, zvn]) (by first | with_reducible assumption | exact ⟨by with_reducible assumption, by with_reducible assumption⟩ | first | lia | grind [zu_at, zu_atL, zvn]) (by first | with_reducible assumption | exact ⟨by with_reducible assumption, by with_reducible assumption⟩ | first | lia | grind [zu_at, zu_atL, zvn]) (by first | with_reducible assumption | exact ⟨by with_reducible assumption, by with_reducible assumption⟩ | first | lia | grind [zu_at, zu_atL, zvn]) (by first | with_reducible assumption | exact ⟨by with_reducible assumption, by with_reducible assumption⟩ | first | lia | grind [zu_at, zu_atL, zvn]) (by first | with_reducible assumption | exact ⟨by with_reducible assumption, by with_reducible assumption⟩ | first | lia | grind [zu_at, zu_atL, zvn]) (by first | with_reducible assumption | exact ⟨by with_reducible assumption, by with_reducible assumption⟩ | first | lia | grind [zu_at, zu_atL, zvn]) (by first | with_reducible assumption | exact ⟨by with_reducible assumption, by with_reducible assumption⟩ | first | lia | grind [zu_at, zu_atL, zvn]) (by first | with_reducible assumption | exact ⟨by with_reducible assumption, by with_reducible assumption⟩ | first | lia | grind [zu_at, zu_atL, zvn]) (by first | with_reducible assumption | exact ⟨by with_reducible assumption, by with_reducible assumption⟩ | first | lia | grind [zu_at, zu_atL, zvn]) (by first | with_reducible assumption | exact ⟨by with_reducible assumption, by with_reducible assumption⟩ | first | lia | grind [zu_at, zu_atL, zvn]) (by first | with_reducible assumption | exact ⟨by with_reducible assumption, by with_reducible assumption⟩ | first | lia | grind [zu_at, zu_atL, zvn]) (by first | with_reducible assumption | exact ⟨by with_reducible assumption, by with_reducible assumption⟩ | first | lia | grind [zu_at, zu_atL, zvn]) (by first | with_reducible assumption | exact ⟨by with_reducible assumption, by with_reducible assumption⟩ | first | lia | grind [zu_at, zu_atL, zvn]) (by first | with_reducible assumption | exact ⟨by with_reducible assumption, by with_reducible assumption⟩ | first | lia | grind [zu_at, zu_atL, zvn]) (by first | with_reducible assumption | exact ⟨by with_reducible assumption, by with_reducible assumption⟩ | first | lia | grind [zu_at, zu_atL, zvn]) (by first | with_reducible assumption | exact ⟨by with_reducible assumption, by with_reducible assumption⟩ | first | lia | grind [zu_at, zu_atL, zvn]) (by first | with_reducible assumption | exact ⟨by with_reducible assumption, by with_reducible assumption⟩ | first | lia | grind [zu_at, zu_atL, zvn]) (by first | with_reducible assumption | exact ⟨by with_reducible assumption, by with_reducible assumption⟩ | first | lia | grind [zu_at, zu_atL, zvn]) (by first | with_reducible assumption | exact ⟨by with_reducible assumption, by with_reducible assumption⟩ | first | lia | grind [zu_at, zu_atL, zvn]) (by first | with_reducible assumption | exact ⟨by with_reducible assumption, by with_reducible assumption⟩ | first | lia | grind [zu_at, zu_atL, zvn]) (by first | with_reducible assumption | exact ⟨by with_reducible assumption, by with_reducible assumption⟩ | first | lia | grind [zu_at, zu_atL, zvn]) (by first | with_reducible assumption | exact ⟨by with_reducible assumption, by with_reducible assumption⟩ | first | lia | grind [zu_at, zu_atL, zvn]) (by first | with_reducible assumption | exact ⟨by with_reducible assumption, by with_reducible assumption⟩ | first | lia | grind [zu_at, zu_atL, zvn])) (fun o_6 ho_6 => ?_)
  obtain ⟨o_6_0, o_6_1, o_6_2, o_6_3, o_6_4, o_6_5, o_6_6, o_6_7, o_6_8, o_6_9, o_6_10, o_6_11, o_6_12, o_6_13, o_6_14, o_6_15, o_6_16, o_6_17, o_6_18, o_6_19⟩ := o_6
  try dsimp only at ho_6
  obtain ⟨ho_6_0, ho_6_1, ho_6_2, ho_6_3, ho_6_4, ho_6_5, ho_6_6, ho_6_7, ho_6_8, ho_6_9, ho_6_10, ho_6_11, ho_6_12, ho_6_13, ho_6_14, ho_6_15, ho_6_16, ho_6_17, ho_6_18, ho_6_19, ho_6_20, ho_6_21, ho_6_22, ho_6_23, ho_6_24, ho_6_25, ho_6_26, ho_6_27, ho_6_28, ho_6_29, ho_6_30⟩ := ho_6
  refine zw_if (fun c2 => ?_) (fun c2 => ?_)
  · refine zw_some ?_
    first | exact True.intro | ((try dsimp only); (repeat' apply And.intro) <;> first | with_reducible assumption | first | lia | grind [zu_at, zu_atL, zvn])
  refine zw_zb0 (sf_X1_leastWithin p1 p2 o_6_2 o_6_3 v2_0 f3 o_6_7 o_6_6 o_6_9 o_6_8 (by first | with_reducible assumption | exact ⟨by with_reducible assumption, by with_reducible assumption⟩ | first | lia | grind [zu_at, zu_atL, zvn]) (by first | with_reducible assumption | exact ⟨by with_reducible assumption, by with_reducible assumption⟩ | first | lia | grind [zu_at, zu_atL, zvn]) (by first | with_reducible assumption | exact ⟨by with_reducible assumption, by with_reducible assumption⟩ | first | lia | grind [zu_at, zu_atL, zvn]) (by first | with_reducible assumption | exact ⟨by with_reducible assumption, by with_reducible assumption⟩ | first | lia | grind [zu_at, zu_atL, zvn]) (by first | with_reducible assumption | exact ⟨by with_reducible assumption, by with_reducible assumption⟩ | first | lia | grind [zu_at, zu_atL, zvn]) (by first | with_reducible assumption | exact ⟨by with_reducible assumption, by with_reducible assumption⟩ | first | lia | grind [zu_at, zu_atL, zvn]) (by first | with_reducible assumption | exact ⟨by with_reducible assumption, by with_reducible assumption⟩ | first | lia | grind [zu_at, zu_atL, zvn]) (by first | with_reducible assumption | exact ⟨by with_reducible assumption, by with_reducible assumption⟩ | first | lia | grind [zu_at, zu_atL, zvn])) (fun o_11 ho_11 => ?_)
  refine zw_some ?_
  first | exact True.intro | ((try dsimp only); (repeat' apply And.intro) <;> first | with_reducible assumption | first | lia | grind [zu_at, zu_atL, zvn])
set_option maxHeartbeats 4000000 in
set_option maxRecDepth 100000 in
theorem sf_X11_byteOf (j0 : Int64) (p1 : Int32) : zw (fn_X11_byteOf j0 p1) (fun r => True) := by
  unfold fn_X11_byteOf
  refine zw_some ?_
  first | exact True.intro | ((try dsimp only); (repeat' apply And.intro) <;> first | with_reducible assumption | first | lia | grind [zu_at, zu_atL, zvn])
set_option maxHeartbeats 4000000 in
set_option maxRecDepth 100000 in
theorem sf_X11_certificate (p1 : Int32) (v1_0 : Int32) (v2_0 : Int32) (v3_2 : Int32) (v4_1 : Int32) (v4_2 : Int32) (f5 : Nat → Int32) (f6 : Nat → Int32) (f7 : Nat → Int32) (f8 : Nat → Int32) (f9 : Nat → Int32) (f10 : Nat → Int64) (f11 : Nat → Int32) (f13 : Nat → Int64) (f14 : Nat → Int64) (f15 : Nat → Int32) (f16 : Nat → Int32) (h_v1_0 : 0 ≤ v1_0 ∧ v1_0 ≤ 4) (h_v2_0 : 0 ≤ v2_0 ∧ v2_0 ≤ 14) (h_v3_2 : 0 ≤ v3_2 ∧ v3_2 ≤ 1) (h_f5 : (∀ i : Nat, 0 ≤ f5 i ∧ f5 i ≤ 13)) : zw (fn_X11_certificate p1 v1_0 v2_0 v3_2 v4_1 v4_2 f5 f6 f7 f8 f9 f10 f11 f13 f14 f15 f16) (fun r => True) := by
  unfold fn_X11_certificate
  refine zw_if (fun c1 => ?_) (fun c1 => ?_)
  · refine zw_some ?_
    first | exact True.intro | ((try dsimp only); (repeat' apply And.intro) <;> first | with_reducible assumption | first | lia | grind [zu_at, zu_atL, zvn])
  refine zw_if (fun c2 => ?_) (fun c2 => ?_)
  · refine zw_some ?_
    first | exact True.intro | ((try dsimp only); (repeat' apply And.intro) <;> first | with_reducible assumption | first | lia | grind [zu_at, zu_atL, zvn])
  refine zw_zb0 (sf_X11_handPasses v1_0 v2_0 v3_2 v4_1 v4_2 f5 f6 f7 f8 f9 f10 f11 f13 f14 f15 f16 (by first | with_reducible assumption | exact ⟨by with_reducible assumption, by with_reducible assumption⟩ | first | lia | grind [zu_at, zu_atL, zvn]) (by first | with_reducible assumption | exact ⟨by with_reducible assumption, by with_reducible assumption⟩ | first | lia | grind [zu_at, zu_atL, zvn]) (by first | with_reducible assumption | exact ⟨by with_reducible assumption, by with_reducible assumption⟩ | first | lia | grind [zu_at, zu_atL, zvn]) (by first | with_reducible assumption | exact ⟨by with_reducible assumption, by with_reducible assumption⟩ | first | lia | grind [zu_at, zu_atL, zvn])) (fun o_3 ho_3 => ?_)
  obtain ⟨o_3_0, o_3_1, o_3_2, o_3_3⟩ := o_3
  try dsimp only at ho_3
  obtain ⟨ho_3_0, ho_3_1, ho_3_2, ho_3_3, ho_3_4, ho_3_5, ho_3_6⟩ := ho_3
  refine zw_if (fun c3 => ?_) (fun c3 => ?_)
  · refine zw_some ?_
    first | exact True.intro | ((try dsimp only); (repeat' apply And.intro) <;> first | with_reducible assumption | first | lia | grind [zu_at, zu_atL, zvn])
  have hdv := zdiv25 p1 (by lia) (by lia)
  refine zw_if (fun c4 => ?_) (fun c4 => ?_)
  · refine zw_zb0 (sf_X9_formatOf (p1 / 25) v2_0 f5 f6 (by first | with_reducible assumption | exact ⟨by with_reducible assumption, by with_reducible assumption⟩ | first | lia | grind [zu_at, zu_atL, zvn]) (by first | with_reducible assumption | exact ⟨by with_reducible assumption, by with_reducible assumption⟩ | first | lia | grind [zu_at, zu_atL, zvn])) (fun o_26 ho_26 => ?_)
    refine zw_some ?_
    first | exact True.intro | ((try dsimp only); (repeat' apply And.intro) <;> first | with_reducible assumption | first | lia | grind [zu_at, zu_atL, zvn])
  refine zw_if (fun c5 => ?_) (fun c5 => ?_)
  · refine zw_if (fun c6 => ?_) (fun c6 => ?_)
    · refine zw_zg32 14 (by decide) (by (try dsimp only); first | lia | grind [zu_at, zu_atL, zvn]) ?_
      refine zw_zb0 (sf_X11_byteOf (o_3_3 (p1 / 25).toNatClampNeg) ((p1 - ((p1 / 25) * 25)) - 17)) (fun o_12 ho_12 => ?_)
      refine zw_some ?_
      first | exact True.intro | ((try dsimp only); (repeat' apply And.intro) <;> first | with_reducible assumption | first | lia | grind [zu_at, zu_atL, zvn])
    refine zw_zg32 14 (by decide) (by (try dsimp only); first | lia | grind [zu_at, zu_atL, zvn]) ?_
    refine zw_zb0 (sf_X11_byteOf (f14 (p1 / 25).toNatClampNeg) ((p1 - ((p1 / 25) * 25)) - 9)) (fun o_17 ho_17 => ?_)
    refine zw_some ?_
    first | exact True.intro | ((try dsimp only); (repeat' apply And.intro) <;> first | with_reducible assumption | first | lia | grind [zu_at, zu_atL, zvn])
  refine zw_zg32 14 (by decide) (by (try dsimp only); first | lia | grind [zu_at, zu_atL, zvn]) ?_
  refine zw_zb0 (sf_X11_byteOf (f13 (p1 / 25).toNatClampNeg) ((p1 - ((p1 / 25) * 25)) - 1)) (fun o_22 ho_22 => ?_)
  refine zw_some ?_
  first | exact True.intro | ((try dsimp only); (repeat' apply And.intro) <;> first | with_reducible assumption | first | lia | grind [zu_at, zu_atL, zvn])
set_option maxHeartbeats 4000000 in
set_option maxRecDepth 100000 in
theorem sf_X11_check (v0_1 : Int32) (v2_0 : Int32) (v3_0 : Int32) (f4 : Nat → Int32) (v5_0 : Int32) (f6 : Nat → Int32) (f7 : Nat → Int32) (f8 : Nat → Int32) (f10 : Nat → Int64) (f11 : Nat → Int64) (f13 : Nat → Int64) (f14 : Nat → Int32) (f15 : Nat → Int32) (f16 : Nat → Int32) (f17 : Nat → Int32) (f18 : Nat → Int32) (f19 : Nat → Int32) (f20 : Nat → Int32) (h_v0_1 : 0 ≤ v0_1 ∧ v0_1 ≤ 1200) (h_v2_0 : 0 ≤ v2_0 ∧ v2_0 ≤ 4) (h_v3_0 : 0 ≤ v3_0 ∧ v3_0 ≤ 14) (h_v5_0 : 0 ≤ v5_0 ∧ v5_0 ≤ 14) (h_f8 : (∀ i : Nat, 0 ≤ f8 i ∧ f8 i ≤ 13)) : zw (fn_X11_check v0_1 v2_0 v3_0 f4 v5_0 f6 f7 f8 f10 f11 f13 f14 f15 f16 f17 f18 f19 f20) (fun r => 0 ≤ r.1 ∧ r.1 ≤ 1 ∧ 0 ≤ r.2.1 ∧ r.2.1 ≤ 1200 ∧ (-2) ≤ r.2.2.1 ∧ (-1) ≤ r.2.2.2.1 ∧ r.2.1 ≤ 0 ∧ r.2.2.1 ≤ 13 ∧ r.2.2.2.1 ≤ 6 ∧ r.2.1 = 0) := by
  unfold fn_X11_check
  refine zw_zb0 (sf_X0_holds v0_1 v2_0 v3_0 f4 v5_0 f6 f7 f8 f10 f11 f13 f14 f15 f16 f17 f18 f19 (by first | with_reducible assumption | exact ⟨by with_reducible assumption, by with_reducible assumption⟩ | first | lia | grind [zu_at, zu_atL, zvn]) (by first | with_reducible assumption | exact ⟨by with_reducible assumption, by with_reducible assumption⟩ | first | lia | grind [zu_at, zu_atL, zvn]) (by first | with_reducible assumption | exact ⟨by with_reducible assumption, by with_reducible assumption⟩ | first | lia | grind [zu_at, zu_atL, zvn]) (by first | with_reducible assumption | exact ⟨by with_reducible assumption, by with_reducible assumption⟩ | first | lia | grind [zu_at, zu_atL, zvn])) (fun o_1 ho_1 => ?_)
  obtain ⟨o_1_0, o_1_1, o_1_2, o_1_3, o_1_4, o_1_5, o_1_6⟩ := o_1
  try dsimp only at ho_1
  obtain ⟨ho_1_0, ho_1_1, ho_1_2, ho_1_3, ho_1_4, ho_1_5⟩ := ho_1
  refine zw_if (fun c1 => ?_) (fun c1 => ?_)
  · refine zw_zb0 (sf_X11_refuse 3 f20) (fun o_6 ho_6 => ?_)
    obtain ⟨o_6_0, o_6_1⟩ := o_6
    try dsimp only at ho_6
    obtain ⟨ho_6_0, ho_6_1⟩ := ho_6
    refine zw_some ?_
    first | exact True.intro | ((try dsimp only); (repeat' apply And.intro) <;> first | with_reducible assumption | first | lia | grind [zu_at, zu_atL, zvn])
  refine zw_some ?_
  first | exact True.intro | ((try dsimp only); (repeat' apply And.intro) <;> first | with_reducible assumption | first | lia | grind [zu_at, zu_atL, zvn])
set_option maxHeartbeats 4000000 in
set_option maxRecDepth 100000 in
theorem sf_X11_broken (p1 : Int32) (v1_3 : Int32) (v1_4 : Int32) : zw (fn_X11_broken p1 v1_3 v1_4) (fun r => True) := by
  unfold fn_X11_broken
  refine zw_if (fun c1 => ?_) (fun c1 => ?_)
  · refine zw_some ?_
    first | exact True.intro | ((try dsimp only); (repeat' apply And.intro) <;> first | with_reducible assumption | first | lia | grind [zu_at, zu_atL, zvn])
  refine zw_if (fun c2 => ?_) (fun c2 => ?_)
  · refine zw_some ?_
    first | exact True.intro | ((try dsimp only); (repeat' apply And.intro) <;> first | with_reducible assumption | first | lia | grind [zu_at, zu_atL, zvn])
  refine zw_some ?_
  first | exact True.intro | ((try dsimp only); (repeat' apply And.intro) <;> first | with_reducible assumption | first | lia | grind [zu_at, zu_atL, zvn])
set_option maxHeartbeats 4000000 in
set_option maxRecDepth 100000 in
theorem sf_X11_trials (p1 : Int32) (p2 : Int32) (v0_15 : Int32) (f1 : Nat → Int32) (v2_0 : Int32) (v3_0 : Int32) (v4_2 : Int32) (v5_1 : Int32) (v5_2 : Int32) (f6 : Nat → Int32) (f7 : Nat → Int32) (f8 : Nat → Int32) (f9 : Nat → Int32) (f10 : Nat → Int32) (f11 : Nat → Int64) (f12 : Nat → Int32) (f14 : Nat → Int64) (f15 : Nat → Int64) (f16 : Nat → Int32) (f17 : Nat → Int32) (f19 : Nat → Int64) (f20 : Nat → Int64) (h_v2_0 : 0 ≤ v2_0 ∧ v2_0 ≤ 4) (h_v3_0 : 0 ≤ v3_0 ∧ v3_0 ≤ 14) (h_v4_2 : 0 ≤ v4_2 ∧ v4_2 ≤ 1) (h_f6 : (∀ i : Nat, 0 ≤ f6 i ∧ f6 i ≤ 13)) : zw (fn_X11_trials p1 p2 v0_15 f1 v2_0 v3_0 v4_2 v5_1 v5_2 f6 f7 f8 f9 f10 f11 f12 f14 f15 f16 f17 f19 f20) (fun r => True) := by
  unfold fn_X11_trials
  refine zw_if (fun c1 => ?_) (fun c1 => ?_)
  · refine zw_zb0 (sf_X11_refuse 4 f1) (fun o_2 ho_2 => ?_)
    obtain ⟨o_2_0, o_2_1⟩ := o_2
    try dsimp only at ho_2
    obtain ⟨ho_2_0, ho_2_1⟩ := ho_2
    refine zw_some ?_
    first | exact True.intro | ((try dsimp only); (repeat' apply And.intro) <;> first | with_reducible assumption | first | lia | grind [zu_at, zu_atL, zvn])
  refine zw_if (fun c2 => ?_) (fun c2 => ?_)
  · refine zw_zb0 (sf_X11_refuse 4 f1) (fun o_7 ho_7 => ?_)
    obtain ⟨o_7_0, o_7_1⟩ := o_7
    try dsimp only at ho_7
    obtain ⟨ho_7_0, ho_7_1⟩ := ho_7
    refine zw_some ?_
    first | exact True.intro | ((try dsimp only); (repeat' apply And.intro) <;> first | with_reducible assumption | first | lia | grind [zu_at, zu_atL, zvn])
  refine zw_zb0 (sf_X9_hasNumber p2 v3_0 (by first | with_reducible assumption | exact ⟨by with_reducible assumption, by with_reducible assumption⟩ | first | lia | grind [zu_at, zu_atL, zvn])) (fun o_11 ho_11 => ?_)
  obtain ⟨ho_11_0, ho_11_1, ho_11_2, ho_11_3, ho_11_4, ho_11_5⟩ := ho_11
  refine zw_if (fun c3 => ?_) (fun c3 => ?_)
  · refine zw_zb0 (sf_X11_refuse 4 f1) (fun o_16 ho_16 => ?_)
    obtain ⟨o_16_0, o_16_1⟩ := o_16
    try dsimp only at ho_16
    obtain ⟨ho_16_0, ho_16_1⟩ := ho_16
    refine zw_some ?_
    first | exact True.intro | ((try dsimp only); (repeat' apply And.intro) <;> first | with_reducible assumption | first | lia | grind [zu_at, zu_atL, zvn])
  refine zw_zb0 (sf_X11_handPasses v2_0 v3_0 v4_2 v5_1 v5_2 f6 f7 f8 f9 f10 f11 f12 f14 f15 f16 f17 (by first | with_reducible assumption | exact ⟨by with_reducible assumption, by with_reducible assumption⟩ | first | lia | grind [zu_at, zu_atL, zvn]) (by first | with_reducible assumption | exact ⟨by with_reducible assumption, by with_reducible assumption⟩ | first | lia | grind [zu_at, zu_atL, zvn]) (by first | with_reducible assumption | exact ⟨by with_reducible assumption, by with_reducible assumption⟩ | first | lia | grind [zu_at, zu_atL, zvn]) (by first | with_reducible assumption | exact ⟨by with_reducible assumption, by with_reducible assumption⟩ | first | lia | grind [zu_at, zu_atL, zvn])) (fun o_20 ho_20 => ?_)
  obtain ⟨o_20_0, o_20_1, o_20_2, o_20_3⟩ := o_20
  try dsimp only at ho_20
  obtain ⟨ho_20_0, ho_20_1, ho_20_2, ho_20_3, ho_20_4, ho_20_5, ho_20_6⟩ := ho_20
  refine zw_if (fun c4 => ?_) (fun c4 => ?_)
  · refine zw_zb0 (sf_X11_refuse 4 f1) (fun o_33 ho_33 => ?_)
    obtain ⟨o_33_0, o_33_1⟩ := o_33
    try dsimp only at ho_33
    obtain ⟨ho_33_0, ho_33_1⟩ := ho_33
    refine zw_some ?_
    first | exact True.intro | ((try dsimp only); (repeat' apply And.intro) <;> first | with_reducible assumption | first | lia | grind [zu_at, zu_atL, zvn])
  refine zw_zl32 (fun s_25 => 0 ≤ s_25.1 ∧ 0 ≤ s_25.2.1 ∧ s_25.2.1 ≤ 40 ∧ s_25.2.1 ≤ p1) (fun s_25 => 40 - s_25.2.1) (by (try dsimp only); (repeat' apply And.intro) <;> first | with_reducible assumption | first | lia | grind [zu_at, zu_atL, zvn]) (by (try dsimp only); first | lia | grind [zu_at, zu_atL, zvn]) (fun s_25 back_25 Hback_25 hback_25 => ?_)
  obtain ⟨s_25_0, s_25_1, s_25_2, s_25_3, s_25_4⟩ := s_25
  try dsimp only at Hback_25 hback_25
  obtain ⟨Hback_25_0, Hback_25_1, Hback_25_2, Hback_25_3⟩ := Hback_25
  refine zw_if (fun c5 => ?_) (fun c5 => ?_)
  · refine zw_some ?_
    first | exact True.intro | ((try dsimp only); (repeat' apply And.intro) <;> first | with_reducible assumption | first | lia | grind [zu_at, zu_atL, zvn])
  refine zw_zb0 (sf_X8_sample s_25_2 v2_0 v3_0 f6 f7 f8 f9 f10 f12 s_25_3 s_25_4 (by first | with_reducible assumption | exact ⟨by with_reducible assumption, by with_reducible assumption⟩ | first | lia | grind [zu_at, zu_atL, zvn]) (by first | with_reducible assumption | exact ⟨by with_reducible assumption, by with_reducible assumption⟩ | first | lia | grind [zu_at, zu_atL, zvn]) (by first | with_reducible assumption | exact ⟨by with_reducible assumption, by with_reducible assumption⟩ | first | lia | grind [zu_at, zu_atL, zvn])) (fun o_27 ho_27 => ?_)
  obtain ⟨o_27_0, o_27_1, o_27_2⟩ := o_27
  try dsimp only at ho_27
  refine zw_zg32 14 (by decide) (by (try dsimp only); first | lia | grind [zu_at, zu_atL, zvn]) ?_
  refine zw_zn (fun x_32 ex_32 => ?_)
  exact hback_25 _ (by (try dsimp only); (repeat' apply And.intro) <;> first | with_reducible assumption | first | lia | grind [zu_at, zu_atL, zvn]) (by (try dsimp only); first | lia | grind [zu_at, zu_atL, zvn]) (by (try dsimp only); first | lia | grind [zu_at, zu_atL, zvn])
set_option maxHeartbeats 4000000 in
set_option maxRecDepth 100000 in
theorem sf_X11_trial (p1 : Int32) (p2 : Int32) (v0_15 : Int32) (v1_0 : Int32) (v2_0 : Int32) (v3_2 : Int32) (v4_1 : Int32) (v4_2 : Int32) (f5 : Nat → Int32) (f6 : Nat → Int32) (f7 : Nat → Int32) (f8 : Nat → Int32) (f9 : Nat → Int32) (f10 : Nat → Int64) (f11 : Nat → Int32) (f13 : Nat → Int64) (f14 : Nat → Int64) (f15 : Nat → Int32) (f16 : Nat → Int32) (f18 : Nat → Int64) (f19 : Nat → Int64) (h_p2 : 0 ≤ p2 ∧ p2 ≤ 1) (h_v1_0 : 0 ≤ v1_0 ∧ v1_0 ≤ 4) (h_v2_0 : 0 ≤ v2_0 ∧ v2_0 ≤ 14) (h_v3_2 : 0 ≤ v3_2 ∧ v3_2 ≤ 1) (h_f5 : (∀ i : Nat, 0 ≤ f5 i ∧ f5 i ≤ 13)) : zw (fn_X11_trial p1 p2 v0_15 v1_0 v2_0 v3_2 v4_1 v4_2 f5 f6 f7 f8 f9 f10 f11 f13 f14 f15 f16 f18 f19) (fun r => True) := by
  unfold fn_X11_trial
  refine zw_zb0 (sf_X9_hasNumber p1 v2_0 (by first | with_reducible assumption | exact ⟨by with_reducible assumption, by with_reducible assumption⟩ | first | lia | grind [zu_at, zu_atL, zvn])) (fun o_1 ho_1 => ?_)
  obtain ⟨ho_1_0, ho_1_1, ho_1_2, ho_1_3, ho_1_4, ho_1_5⟩ := ho_1
  refine zw_if (fun c1 => ?_) (fun c1 => ?_)
  · refine zw_some ?_
    first | exact True.intro | ((try dsimp only); (repeat' apply And.intro) <;> first | with_reducible assumption | first | lia | grind [zu_at, zu_atL, zvn])
  refine zw_zb0 (sf_X11_handPasses v1_0 v2_0 v3_2 v4_1 v4_2 f5 f6 f7 f8 f9 f10 f11 f13 f14 f15 f16 (by first | with_reducible assumption | exact ⟨by with_reducible assumption, by with_reducible assumption⟩ | first | lia | grind [zu_at, zu_atL, zvn]) (by first | with_reducible assumption | exact ⟨by with_reducible assumption, by with_reducible assumption⟩ | first | lia | grind [zu_at, zu_atL, zvn]) (by first | with_reducible assumption | exact ⟨by with_reducible assumption, by with_reducible assumption⟩ | first | lia | grind [zu_at, zu_atL, zvn]) (by first | with_reducible assumption | exact ⟨by with_reducible assumption, by with_reducible assumption⟩ | first | lia | grind [zu_at, zu_atL, zvn])) (fun o_6 ho_6 => ?_)
  obtain ⟨o_6_0, o_6_1, o_6_2, o_6_3⟩ := o_6
  try dsimp only at ho_6
  obtain ⟨ho_6_0, ho_6_1, ho_6_2, ho_6_3, ho_6_4, ho_6_5, ho_6_6⟩ := ho_6
  refine zw_if (fun c2 => ?_) (fun c2 => ?_)
  · refine zw_some ?_
    first | exact True.intro | ((try dsimp only); (repeat' apply And.intro) <;> first | with_reducible assumption | first | lia | grind [zu_at, zu_atL, zvn])
  refine zw_zb0 (sf_X8_sample v0_15 v1_0 v2_0 f5 f6 f7 f8 f9 f11 f18 f19 (by first | with_reducible assumption | exact ⟨by with_reducible assumption, by with_reducible assumption⟩ | first | lia | grind [zu_at, zu_atL, zvn]) (by first | with_reducible assumption | exact ⟨by with_reducible assumption, by with_reducible assumption⟩ | first | lia | grind [zu_at, zu_atL, zvn]) (by first | with_reducible assumption | exact ⟨by with_reducible assumption, by with_reducible assumption⟩ | first | lia | grind [zu_at, zu_atL, zvn])) (fun o_11 ho_11 => ?_)
  obtain ⟨o_11_0, o_11_1, o_11_2⟩ := o_11
  try dsimp only at ho_11
  refine zw_if (fun c3 => ?_) (fun c3 => ?_)
  · refine zw_zg32 14 (by decide) (by (try dsimp only); first | lia | grind [zu_at, zu_atL, zvn]) ?_
    refine zw_some ?_
    first | exact True.intro | ((try dsimp only); (repeat' apply And.intro) <;> first | with_reducible assumption | first | lia | grind [zu_at, zu_atL, zvn])
  refine zw_zg32 14 (by decide) (by (try dsimp only); first | lia | grind [zu_at, zu_atL, zvn]) ?_
  refine zw_some ?_
  first | exact True.intro | ((try dsimp only); (repeat' apply And.intro) <;> first | with_reducible assumption | first | lia | grind [zu_at, zu_atL, zvn])
set_option maxHeartbeats 4000000 in
set_option maxRecDepth 100000 in
theorem sf_X11_seed (p1 : Int32) (v0_15 : Int32) (f1 : Nat → Int32) : zw (fn_X11_seed p1 v0_15 f1) (fun r => 0 ≤ r.1 ∧ r.1 ≤ 1) := by
  unfold fn_X11_seed
  refine zw_if (fun c1 => ?_) (fun c1 => ?_)
  · refine zw_some ?_
    first | exact True.intro | ((try dsimp only); (repeat' apply And.intro) <;> first | with_reducible assumption | first | lia | grind [zu_at, zu_atL, zvn])
  refine zw_zb0 (sf_X11_refuse 4 f1) (fun o_2 ho_2 => ?_)
  obtain ⟨o_2_0, o_2_1⟩ := o_2
  try dsimp only at ho_2
  obtain ⟨ho_2_0, ho_2_1⟩ := ho_2
  refine zw_some ?_
  first | exact True.intro | ((try dsimp only); (repeat' apply And.intro) <;> first | with_reducible assumption | first | lia | grind [zu_at, zu_atL, zvn])
set_option maxHeartbeats 4000000 in
set_option maxRecDepth 100000 in
theorem sf_X11_status (p1 : Int32) (f1 : Nat → Int32) : zw (fn_X11_status p1 f1) (fun r => True) := by
  unfold fn_X11_status
  refine zw_if (fun c1 => ?_) (fun c1 => ?_)
  · refine zw_some ?_
    first | exact True.intro | ((try dsimp only); (repeat' apply And.intro) <;> first | with_reducible assumption | first | lia | grind [zu_at, zu_atL, zvn])
  refine zw_if (fun c2 => ?_) (fun c2 => ?_)
  · refine zw_some ?_
    first | exact True.intro | ((try dsimp only); (repeat' apply And.intro) <;> first | with_reducible assumption | first | lia | grind [zu_at, zu_atL, zvn])
  refine zw_zg32 5 (by decide) (by (try dsimp only); first | lia | grind [zu_at, zu_atL, zvn]) ?_
  refine zw_some ?_
  first | exact True.intro | ((try dsimp only); (repeat' apply And.intro) <;> first | with_reducible assumption | first | lia | grind [zu_at, zu_atL, zvn])
