set_option maxHeartbeats 1000000 in
theorem sf_X11_least (p1 : Int32) (p2 : Int32) (v1_0 : Int32) (v1_5 : Int32) (v2_0 : Int32) (f3 : Nat → Int32) (v4_2 : Int32) (v4_3 : Int32) (v4_6 : Int32) (v4_7 : Int32) (v4_8 : Int32) (v5_0 : Int32) (v5_1 : Int32) (v5_2 : Int32) (n6 : Nat) (f6 : Nat → Int32) (n7 : Nat) (f7 : Nat → Int32) (n8 : Nat) (f8 : Nat → Int32) (n9 : Nat) (f9 : Nat → Int32) (n10 : Nat) (f10 : Nat → Int32) (f11 : Nat → Int32) (f12 : Nat → Int32) (v13_1 : Int32) (v13_2 : Int32) (f14 : Nat → Int32) (f15 : Nat → Int32) (f16 : Nat → Int32) (f17 : Nat → Int32) (f18 : Nat → Int64) (f19 : Nat → Int32) (f21 : Nat → Int64) (f22 : Nat → Int64) (f23 : Nat → Int32) (f24 : Nat → Int32) (h_v1_0 : 0 ≤ v1_0 ∧ v1_0 ≤ 4) (h_v2_0 : 0 ≤ v2_0 ∧ v2_0 ≤ 14) (h_v4_2 : 0 ≤ v4_2 ∧ v4_2 ≤ 1) (h_v4_3 : 0 ≤ v4_3 ∧ v4_3 ≤ 14) (h_v4_6 : 0 ≤ v4_6 ∧ v4_6 ≤ 1024) (h_v5_0 : 0 ≤ v5_0 ∧ v5_0 ≤ 14) (h_v5_1 : 0 ≤ v5_1 ∧ v5_1 ≤ 14) (h_v5_2 : 0 ≤ v5_2 ∧ v5_2 ≤ 1) (h_n6 : n6 ≤ 1024) (hN_n6 : 0 ≤ Int32.ofNat n6 ∧ Int32.ofNat n6 ≤ 1024) (h_n7 : n7 ≤ 14336) (hN_n7 : 0 ≤ Int32.ofNat n7 ∧ Int32.ofNat n7 ≤ 14336) (h_n8 : n8 ≤ 1024) (hN_n8 : 0 ≤ Int32.ofNat n8 ∧ Int32.ofNat n8 ≤ 1024) (h_n9 : n9 ≤ 1024) (hN_n9 : 0 ≤ Int32.ofNat n9 ∧ Int32.ofNat n9 ≤ 1024) (h_n10 : n10 ≤ 1024) (hN_n10 : 0 ≤ Int32.ofNat n10 ∧ Int32.ofNat n10 ≤ 1024) (h_f14 : (∀ i : Nat, 0 ≤ f14 i ∧ f14 i ≤ 13)) (hr_0 : v4_6 ≤ (Int32.ofNat n6)) (hr_1 : (Int32.ofNat n6) ≤ (Int32.ofNat n9)) (hr_2 : (Int32.ofNat n6) ≤ (Int32.ofNat n8)) (hr_3 : (Int32.ofNat n6) ≤ (Int32.ofNat n10)) : zw (fn_X11_least p1 p2 v1_0 v1_5 v2_0 f3 v4_2 v4_3 v4_6 v4_7 v4_8 v5_0 v5_1 v5_2 n6 f6 n7 f7 n8 f8 n9 f9 n10 f10 f11 f12 v13_1 v13_2 f14 f15 f16 f17 f18 f19 f21 f22 f23 f24) (fun r => 0 ≤ r.2.1 ∧ r.2.1 ≤ 1 ∧ 0 ≤ r.2.2.1 ∧ r.2.2.1 ≤ 14 ∧ 0 ≤ r.2.2.2.1 ∧ r.2.2.2.1 ≤ 1024 ∧ r.2.2.2.2.2.2.2.1 ≤ 1024 ∧ 0 ≤ Int32.ofNat r.2.2.2.2.2.2.2.1 ∧ Int32.ofNat r.2.2.2.2.2.2.2.1 ≤ 1024 ∧ r.2.2.2.2.2.2.2.2.2.1 ≤ 14336 ∧ 0 ≤ Int32.ofNat r.2.2.2.2.2.2.2.2.2.1 ∧ Int32.ofNat r.2.2.2.2.2.2.2.2.2.1 ≤ 14336 ∧ r.2.2.2.2.2.2.2.2.2.2.2.1 ≤ 1024 ∧ 0 ≤ Int32.ofNat r.2.2.2.2.2.2.2.2.2.2.2.1 ∧ Int32.ofNat r.2.2.2.2.2.2.2.2.2.2.2.1 ≤ 1024 ∧ r.2.2.2.2.2.2.2.2.2.2.2.2.2.1 ≤ 1024 ∧ 0 ≤ Int32.ofNat r.2.2.2.2.2.2.2.2.2.2.2.2.2.1 ∧ Int32.ofNat r.2.2.2.2.2.2.2.2.2.2.2.2.2.1 ≤ 1024 ∧ r.2.2.2.2.2.2.2.2.2.2.2.2.2.2.2.1 ≤ 1024 ∧ 0 ≤ Int32.ofNat r.2.2.2.2.2.2.2.2.2.2.2.2.2.2.2.1 ∧ Int32.ofNat r.2.2.2.2.2.2.2.2.2.2.2.2.2.2.2.1 ≤ 1024 ∧ (Int32.ofNat n6) ≤ (Int32.ofNat r.2.2.2.2.2.2.2.1) ∧ (Int32.ofNat n7) ≤ (Int32.ofNat r.2.2.2.2.2.2.2.2.2.1) ∧ (Int32.ofNat r.2.2.2.2.2.2.2.1) ≤ (Int32.ofNat r.2.2.2.2.2.2.2.2.2.2.2.1) ∧ (Int32.ofNat r.2.2.2.2.2.2.2.1) ≤ (Int32.ofNat r.2.2.2.2.2.2.2.2.2.2.2.2.2.1) ∧ (Int32.ofNat r.2.2.2.2.2.2.2.1) ≤ (Int32.ofNat r.2.2.2.2.2.2.2.2.2.2.2.2.2.2.2.1) ∧ r.2.2.2.1 ≤ (Int32.ofNat r.2.2.2.2.2.2.2.1) ∧ v4_2 ≤ r.2.1 ∧ (¬ r.1 = (-1000000000000000) → 0 ≤ p1 ∧ 1 ≤ r.2.1 ∧ p1 < v2_0 ∧ r.2.1 ≤ p1 + 1 ∧ r.2.2.1 ≤ r.2.1 + 13 ∧ v1_0 ≤ r.2.1 + 3 ∧ v2_0 ≤ r.2.1 + 13 ∧ v4_3 ≤ r.2.1 + 13 ∧ v5_0 ≤ r.2.1 + 13 ∧ v5_1 ≤ 5 ∧ v5_1 ≤ r.2.1 + 4 ∧ v5_2 ≤ r.2.1) ∧ r.2.2.2.1 ≤ (Int32.ofNat r.2.2.2.2.2.2.2.1) ∧ (Int32.ofNat r.2.2.2.2.2.2.2.1) ≤ (Int32.ofNat r.2.2.2.2.2.2.2.2.2.2.2.2.2.1) ∧ (Int32.ofNat r.2.2.2.2.2.2.2.1) ≤ (Int32.ofNat r.2.2.2.2.2.2.2.2.2.2.2.1) ∧ (Int32.ofNat r.2.2.2.2.2.2.2.1) ≤ (Int32.ofNat r.2.2.2.2.2.2.2.2.2.2.2.2.2.2.2.1)) := by
  unfold fn_X11_least
  refine zw_zb0 (sf_X9_isAnswer p1 v2_0 f3 (by grind [zu_at, zu_atL])) (fun o_1 ho_1 => ?_)
  refine zw_if (fun c1 => ?_) (fun c1 => ?_)
  · refine zw_some ?_
    first | trivial | (try dsimp only); grind [zu_at, zu_atL]
  refine zw_zb0 (sf_X1_search v4_2 v4_3 v4_6 v4_7 v4_8 v1_0 v1_5 v2_0 v5_0 v5_1 v5_2 f3 n6 f6 n7 f7 n8 f8 n9 f9 n10 f10 f11 f12 v13_1 v13_2 f14 f15 f16 f17 f18 f19 f21 f22 f23 f24 (by grind [zu_at, zu_atL]) (by grind [zu_at, zu_atL]) (by grind [zu_at, zu_atL]) (by grind [zu_at, zu_atL]) (by grind [zu_at, zu_atL]) (by grind [zu_at, zu_atL]) (by grind [zu_at, zu_atL]) (by grind [zu_at, zu_atL]) (by grind [zu_at, zu_atL]) (by grind [zu_at, zu_atL]) (by grind [zu_at, zu_atL]) (by grind [zu_at, zu_atL]) (by grind [zu_at, zu_atL]) (by grind [zu_at, zu_atL]) (by grind [zu_at, zu_atL]) (by grind [zu_at, zu_atL]) (by grind [zu_at, zu_atL]) (by grind [zu_at, zu_atL]) (by grind [zu_at, zu_atL]) (by grind [zu_at, zu_atL]) (by grind [zu_at, zu_atL]) (by grind [zu_at, zu_atL]) (by grind [zu_at, zu_atL])) (fun o_6 ho_6 => ?_)
  refine zw_if (fun c2 => ?_) (fun c2 => ?_)
  · refine zw_some ?_
    first | trivial | (try dsimp only); grind [zu_at, zu_atL]
  refine zw_zb0 (sf_X1_leastWithin p1 p2 o_6.2.2.1 o_6.2.2.2.1 v2_0 f3 o_6.2.2.2.2.2.2.2.1 o_6.2.2.2.2.2.2.1 o_6.2.2.2.2.2.2.2.2.2.1 o_6.2.2.2.2.2.2.2.2.1 (by grind [zu_at, zu_atL]) (by grind [zu_at, zu_atL]) (by grind [zu_at, zu_atL]) (by grind [zu_at, zu_atL]) (by grind [zu_at, zu_atL]) (by grind [zu_at, zu_atL]) (by grind [zu_at, zu_atL]) (by grind [zu_at, zu_atL])) (fun o_11 ho_11 => ?_)
  refine zw_some ?_
  first | trivial | (try dsimp only); grind [zu_at, zu_atL]
set_option maxHeartbeats 1000000 in
theorem sf_X11_byteOf (j0 : Int64) (p1 : Int32) : zw (fn_X11_byteOf j0 p1) (fun r => 0 ≤ r ∧ r ≤ 255) := by
  unfold fn_X11_byteOf
  refine zw_some ?_
  first | trivial | (try dsimp only); grind [zu_at, zu_atL]
set_option maxHeartbeats 1000000 in
theorem sf_X11_certificate (p1 : Int32) (v1_0 : Int32) (v2_0 : Int32) (v3_2 : Int32) (v4_1 : Int32) (v4_2 : Int32) (f5 : Nat → Int32) (f6 : Nat → Int32) (f7 : Nat → Int32) (f8 : Nat → Int32) (f9 : Nat → Int32) (f10 : Nat → Int64) (f11 : Nat → Int32) (f13 : Nat → Int64) (f14 : Nat → Int64) (f15 : Nat → Int32) (f16 : Nat → Int32) (h_v1_0 : 0 ≤ v1_0 ∧ v1_0 ≤ 4) (h_v2_0 : 0 ≤ v2_0 ∧ v2_0 ≤ 14) (h_v3_2 : 0 ≤ v3_2 ∧ v3_2 ≤ 1) (h_f5 : (∀ i : Nat, 0 ≤ f5 i ∧ f5 i ≤ 13)) : zw (fn_X11_certificate p1 v1_0 v2_0 v3_2 v4_1 v4_2 f5 f6 f7 f8 f9 f10 f11 f13 f14 f15 f16) (fun r => (¬ r.1 = (-1) → (25 * v2_0) ≤ 350 ∧ (p1 - p1) ≤ p1 ∧ (p1 / 25) ≤ 13 ∧ (p1 / 25) ≤ p1 ∧ (p1 / 25) ≤ r.2.1 + 15 ∧ (p1 / 25) ≤ r.2.2.1 + 13 ∧ (p1 / 25) ≤ v3_2 + 13 ∧ 0 ≤ (p1 / 25) ∧ (-2) ≤ r.2.1 ∧ 0 ≤ r.2.2.1 ∧ 1 ≤ v2_0 ∧ p1 < (25 * v2_0) ∧ r.2.1 + 2 ≤ (p1 / 25) ∧ r.2.1 ≤ (-2) ∧ r.2.1 + 2 ≤ r.2.2.1 ∧ r.2.1 + 2 ≤ v1_0 ∧ r.2.1 + 3 ≤ v2_0 ∧ r.2.1 + 2 ≤ v3_2 ∧ r.2.2.1 ≤ (p1 / 25) ∧ r.2.2.1 ≤ 0 ∧ r.2.2.1 ≤ r.2.1 + 2 ∧ r.2.2.1 ≤ v1_0 ∧ r.2.2.1 < v2_0 ∧ r.2.2.1 ≤ v3_2 ∧ v1_0 ≤ r.2.1 + 6 ∧ v1_0 ≤ r.2.2.1 + 4 ∧ v2_0 ≤ r.2.1 + 16 ∧ v2_0 ≤ r.2.2.1 + 14 ∧ v3_2 ≤ (p1 / 25) ∧ v3_2 ≤ 0 ∧ v3_2 ≤ r.2.1 + 2 ∧ v3_2 ≤ r.2.2.1 ∧ v3_2 ≤ v1_0 ∧ v3_2 < v2_0)) := by
  unfold fn_X11_certificate
  refine zw_if (fun c1 => ?_) (fun c1 => ?_)
  · refine zw_some ?_
    first | trivial | (try dsimp only); grind [zu_at, zu_atL]
  refine zw_if (fun c2 => ?_) (fun c2 => ?_)
  · refine zw_some ?_
    first | trivial | (try dsimp only); grind [zu_at, zu_atL]
  refine zw_zb0 (sf_X11_handPasses v1_0 v2_0 v3_2 v4_1 v4_2 f5 f6 f7 f8 f9 f10 f11 f13 f14 f15 f16 (by grind [zu_at, zu_atL]) (by grind [zu_at, zu_atL]) (by grind [zu_at, zu_atL]) (by grind [zu_at, zu_atL])) (fun o_3 ho_3 => ?_)
  refine zw_if (fun c3 => ?_) (fun c3 => ?_)
  · refine zw_some ?_
    first | trivial | (try dsimp only); grind [zu_at, zu_atL]
  refine zw_if (fun c4 => ?_) (fun c4 => ?_)
  · refine zw_zb0 (sf_X9_formatOf (p1 / 25) v2_0 f5 f6 (by grind [zu_at, zu_atL]) (by grind [zu_at, zu_atL])) (fun o_26 ho_26 => ?_)
    refine zw_some ?_
    first | trivial | (try dsimp only); grind [zu_at, zu_atL]
  refine zw_if (fun c5 => ?_) (fun c5 => ?_)
  · refine zw_if (fun c6 => ?_) (fun c6 => ?_)
    · refine zw_zg32 14 (by decide) (by grind [zu_at, zu_atL]) ?_
      refine zw_zb0 (sf_X11_byteOf (o_3.2.2.2 (p1 / 25).toNatClampNeg) ((((p1 - p1) / 25) * 25) - 17)) (fun o_12 ho_12 => ?_)
      refine zw_some ?_
      first | trivial | (try dsimp only); grind [zu_at, zu_atL]
    refine zw_zg32 14 (by decide) (by grind [zu_at, zu_atL]) ?_
    refine zw_zb0 (sf_X11_byteOf (f14 (p1 / 25).toNatClampNeg) ((((p1 - p1) / 25) * 25) - 9)) (fun o_17 ho_17 => ?_)
    refine zw_some ?_
    first | trivial | (try dsimp only); grind [zu_at, zu_atL]
  refine zw_zg32 14 (by decide) (by grind [zu_at, zu_atL]) ?_
  refine zw_zb0 (sf_X11_byteOf (f13 (p1 / 25).toNatClampNeg) ((((p1 - p1) / 25) * 25) - 1)) (fun o_22 ho_22 => ?_)
  refine zw_some ?_
  first | trivial | (try dsimp only); grind [zu_at, zu_atL]
set_option maxHeartbeats 1000000 in
theorem sf_X11_check (v0_1 : Int32) (v2_0 : Int32) (v3_0 : Int32) (f4 : Nat → Int32) (v5_0 : Int32) (f6 : Nat → Int32) (f7 : Nat → Int32) (f8 : Nat → Int32) (f10 : Nat → Int64) (f11 : Nat → Int64) (f13 : Nat → Int64) (f14 : Nat → Int32) (f15 : Nat → Int32) (f16 : Nat → Int32) (f17 : Nat → Int32) (f18 : Nat → Int32) (f19 : Nat → Int32) (f20 : Nat → Int32) (h_v0_1 : 0 ≤ v0_1 ∧ v0_1 ≤ 1200) (h_v2_0 : 0 ≤ v2_0 ∧ v2_0 ≤ 4) (h_v3_0 : 0 ≤ v3_0 ∧ v3_0 ≤ 14) (h_v5_0 : 0 ≤ v5_0 ∧ v5_0 ≤ 14) (h_f8 : (∀ i : Nat, 0 ≤ f8 i ∧ f8 i ≤ 13)) : zw (fn_X11_check v0_1 v2_0 v3_0 f4 v5_0 f6 f7 f8 f10 f11 f13 f14 f15 f16 f17 f18 f19 f20) (fun r => 0 ≤ r.1 ∧ r.1 ≤ 1 ∧ 0 ≤ r.2.1 ∧ r.2.1 ≤ 1200 ∧ (-2) ≤ r.2.2.1 ∧ r.1 ≤ r.2.2.2.1 + 1 ∧ r.1 ≤ v0_1 ∧ r.1 ≤ v3_0 ∧ r.2.1 ≤ 0 ∧ r.2.1 ≤ r.1 ∧ r.2.1 ≤ r.2.2.1 + 2 ∧ r.2.1 ≤ v2_0 ∧ r.2.1 ≤ v5_0 ∧ r.2.2.1 ≤ r.2.2.2.1 + 12 ∧ r.2.2.1 < v3_0 ∧ r.2.2.2.1 ≤ 6 ∧ r.2.2.2.1 ≤ r.2.1 + 6 ∧ r.2.2.2.1 ≤ r.2.2.1 + 6 ∧ r.2.2.2.1 ≤ v2_0 + 5 ∧ (r.1 = 0 → (-1) ≤ r.2.2.1 ∧ r.1 ≤ r.2.1 ∧ r.1 ≤ r.2.2.1 + 1 ∧ r.1 ≤ v2_0 ∧ r.1 ≤ v5_0 ∧ r.2.1 ≤ r.2.2.1 + 1) ∧ (¬ r.1 = 0 → (25 * v3_0) ≤ 350 ∧ (25 * v3_0) ≤ v0_1 ∧ 25 ≤ (25 * v3_0) ∧ 1 ≤ r.1 ∧ 0 ≤ r.2.2.2.1 ∧ 25 ≤ v0_1 ∧ 1 ≤ v3_0 ∧ r.2.1 < r.1 ∧ r.2.1 ≤ r.2.2.2.1 ∧ r.2.1 < v3_0 ∧ r.2.2.1 ≤ (-2) ∧ r.2.2.1 + 3 ≤ r.1 ∧ r.2.2.1 + 2 ≤ r.2.1 ∧ r.2.2.1 + 2 ≤ r.2.2.2.1 ∧ r.2.2.1 + 2 ≤ v2_0 ∧ r.2.2.1 + 3 ≤ v3_0 ∧ r.2.2.1 + 2 ≤ v5_0 ∧ r.2.2.2.1 ≤ 0 ∧ r.2.2.2.1 < r.1 ∧ r.2.2.2.1 ≤ r.2.1 ∧ r.2.2.2.1 ≤ r.2.2.1 + 2 ∧ r.2.2.2.1 ≤ v2_0 ∧ r.2.2.2.1 < v3_0 ∧ r.2.2.2.1 ≤ v5_0 ∧ v0_1 ≤ (25 * v3_0) ∧ v0_1 ≤ 350 ∧ v2_0 ≤ r.1 + 3 ∧ v2_0 ≤ r.2.2.2.1 + 4 ∧ v3_0 ≤ r.1 + 13 ∧ v3_0 ≤ r.2.2.2.1 + 14 ∧ v5_0 ≤ r.1 + 13 ∧ v5_0 ≤ r.2.2.2.1 + 14) ∧ (r.1 = 1 → (25 * v3_0) ≤ 350 ∧ (25 * v3_0) ≤ v0_1 ∧ 25 ≤ (25 * v3_0) ∧ 0 ≤ r.2.2.2.1 ∧ 25 ≤ v0_1 ∧ 1 ≤ v3_0 ∧ r.2.1 < r.1 ∧ r.2.1 ≤ r.2.2.2.1 ∧ r.2.1 < v3_0 ∧ r.2.2.1 ≤ (-2) ∧ r.2.2.1 + 3 ≤ r.1 ∧ r.2.2.1 + 2 ≤ r.2.1 ∧ r.2.2.1 + 2 ≤ r.2.2.2.1 ∧ r.2.2.1 + 2 ≤ v2_0 ∧ r.2.2.1 + 3 ≤ v3_0 ∧ r.2.2.1 + 2 ≤ v5_0 ∧ r.2.2.2.1 ≤ 0 ∧ r.2.2.2.1 < r.1 ∧ r.2.2.2.1 ≤ r.2.1 ∧ r.2.2.2.1 ≤ r.2.2.1 + 2 ∧ r.2.2.2.1 ≤ v2_0 ∧ r.2.2.2.1 < v3_0 ∧ r.2.2.2.1 ≤ v5_0 ∧ v0_1 ≤ (25 * v3_0) ∧ v0_1 ≤ 350 ∧ v2_0 ≤ r.1 + 3 ∧ v2_0 ≤ r.2.2.2.1 + 4 ∧ v3_0 ≤ r.1 + 13 ∧ v3_0 ≤ r.2.2.2.1 + 14 ∧ v5_0 ≤ r.1 + 13 ∧ v5_0 ≤ r.2.2.2.1 + 14) ∧ (¬ r.1 = 1 → (-1) ≤ r.2.2.1 ∧ r.1 ≤ 0 ∧ r.1 ≤ r.2.1 ∧ r.1 ≤ r.2.2.1 + 1 ∧ r.1 ≤ v2_0 ∧ r.1 ≤ v5_0 ∧ r.2.1 ≤ r.2.2.1 + 1)) := by
  unfold fn_X11_check
  refine zw_zb0 (sf_X0_holds v0_1 v2_0 v3_0 f4 v5_0 f6 f7 f8 f10 f11 f13 f14 f15 f16 f17 f18 f19 (by grind [zu_at, zu_atL]) (by grind [zu_at, zu_atL]) (by grind [zu_at, zu_atL]) (by grind [zu_at, zu_atL])) (fun o_1 ho_1 => ?_)
  refine zw_if (fun c1 => ?_) (fun c1 => ?_)
  · refine zw_zb0 (sf_X11_refuse 3 f20) (fun o_6 ho_6 => ?_)
    refine zw_some ?_
    first | trivial | (try dsimp only); grind [zu_at, zu_atL]
  refine zw_some ?_
  first | trivial | (try dsimp only); grind [zu_at, zu_atL]
set_option maxHeartbeats 1000000 in
theorem sf_X11_broken (p1 : Int32) (v1_3 : Int32) (v1_4 : Int32) : zw (fn_X11_broken p1 v1_3 v1_4) (fun r => (¬ r = (-1) → 0 ≤ p1 ∧ p1 ≤ 1)) := by
  unfold fn_X11_broken
  refine zw_if (fun c1 => ?_) (fun c1 => ?_)
  · refine zw_some ?_
    first | trivial | (try dsimp only); grind [zu_at, zu_atL]
  refine zw_if (fun c2 => ?_) (fun c2 => ?_)
  · refine zw_some ?_
    first | trivial | (try dsimp only); grind [zu_at, zu_atL]
  refine zw_some ?_
  first | trivial | (try dsimp only); grind [zu_at, zu_atL]
set_option maxHeartbeats 1000000 in
theorem sf_X11_trials (p1 : Int32) (p2 : Int32) (v0_15 : Int32) (f1 : Nat → Int32) (v2_0 : Int32) (v3_0 : Int32) (v4_2 : Int32) (v5_1 : Int32) (v5_2 : Int32) (f6 : Nat → Int32) (f7 : Nat → Int32) (f8 : Nat → Int32) (f9 : Nat → Int32) (f10 : Nat → Int32) (f11 : Nat → Int64) (f12 : Nat → Int32) (f14 : Nat → Int64) (f15 : Nat → Int64) (f16 : Nat → Int32) (f17 : Nat → Int32) (f19 : Nat → Int64) (f20 : Nat → Int64) (h_v2_0 : 0 ≤ v2_0 ∧ v2_0 ≤ 4) (h_v3_0 : 0 ≤ v3_0 ∧ v3_0 ≤ 14) (h_v4_2 : 0 ≤ v4_2 ∧ v4_2 ≤ 1) (h_f6 : (∀ i : Nat, 0 ≤ f6 i ∧ f6 i ≤ 13)) : zw (fn_X11_trials p1 p2 v0_15 f1 v2_0 v3_0 v4_2 v5_1 v5_2 f6 f7 f8 f9 f10 f11 f12 f14 f15 f16 f17 f19 f20) (fun r => (-1) ≤ r.1 ∧ (r.1 = (-1) → r.2.1 ≤ v0_15 ∧ v0_15 ≤ r.2.1) ∧ (¬ r.1 = (-1) → 1 ≤ p1 ∧ 0 ≤ p2 ∧ 0 ≤ r.1 ∧ (-2) ≤ r.2.2.2.1 ∧ 0 ≤ r.2.2.2.2.1 ∧ p1 ≤ 40 ∧ p2 < v3_0 ∧ r.2.2.2.1 ≤ (-2) ∧ r.2.2.2.1 + 3 ≤ p1 ∧ r.2.2.2.1 + 2 ≤ p2 ∧ r.2.2.2.1 + 2 ≤ r.2.2.2.2.1 ∧ r.2.2.2.1 + 2 ≤ v2_0 ∧ r.2.2.2.1 + 2 ≤ v4_2 ∧ r.2.2.2.2.1 ≤ 0 ∧ r.2.2.2.2.1 < p1 ∧ r.2.2.2.2.1 ≤ p2 ∧ r.2.2.2.2.1 ≤ r.2.2.2.1 + 2 ∧ r.2.2.2.2.1 ≤ v2_0 ∧ r.2.2.2.2.1 ≤ v4_2 ∧ v2_0 ≤ r.2.2.2.1 + 6 ∧ v2_0 ≤ r.2.2.2.2.1 + 4 ∧ v3_0 ≤ r.2.2.2.1 + 16 ∧ v3_0 ≤ r.2.2.2.2.1 + 14 ∧ v4_2 ≤ 0 ∧ v4_2 < p1 ∧ v4_2 ≤ p2 ∧ v4_2 ≤ r.2.2.2.1 + 2 ∧ v4_2 ≤ r.2.2.2.2.1 ∧ v4_2 ≤ v2_0)) := by
  unfold fn_X11_trials
  refine zw_if (fun c1 => ?_) (fun c1 => ?_)
  · refine zw_zb0 (sf_X11_refuse 4 f1) (fun o_2 ho_2 => ?_)
    refine zw_some ?_
    first | trivial | (try dsimp only); grind [zu_at, zu_atL]
  refine zw_if (fun c2 => ?_) (fun c2 => ?_)
  · refine zw_zb0 (sf_X11_refuse 4 f1) (fun o_7 ho_7 => ?_)
    refine zw_some ?_
    first | trivial | (try dsimp only); grind [zu_at, zu_atL]
  refine zw_zb0 (sf_X9_hasNumber p2 v3_0 (by grind [zu_at, zu_atL])) (fun o_11 ho_11 => ?_)
  refine zw_if (fun c3 => ?_) (fun c3 => ?_)
  · refine zw_zb0 (sf_X11_refuse 4 f1) (fun o_16 ho_16 => ?_)
    refine zw_some ?_
    first | trivial | (try dsimp only); grind [zu_at, zu_atL]
  refine zw_zb0 (sf_X11_handPasses v2_0 v3_0 v4_2 v5_1 v5_2 f6 f7 f8 f9 f10 f11 f12 f14 f15 f16 f17 (by grind [zu_at, zu_atL]) (by grind [zu_at, zu_atL]) (by grind [zu_at, zu_atL]) (by grind [zu_at, zu_atL])) (fun o_20 ho_20 => ?_)
  refine zw_if (fun c4 => ?_) (fun c4 => ?_)
  · refine zw_zb0 (sf_X11_refuse 4 f1) (fun o_33 ho_33 => ?_)
    refine zw_some ?_
    first | trivial | (try dsimp only); grind [zu_at, zu_atL]
  refine zw_zl32 (fun s_25 => 0 ≤ s_25.1 ∧ 0 ≤ s_25.2.1 ∧ o_11 ≤ s_25.2.1 + 1 ∧ o_20.1 ≤ s_25.2.1 + 1 ∧ o_20.2.1 + 2 ≤ s_25.2.1 ∧ o_20.2.2.1 ≤ s_25.2.1 ∧ s_25.2.1 ≤ p1 ∧ v4_2 ≤ s_25.2.1) (fun s_25 => 40 - s_25.2.1) (by (try dsimp only); grind [zu_at, zu_atL]) (by (try dsimp only); grind [zu_at, zu_atL]) (fun s_25 back_25 Hback_25 hback_25 => ?_)
  refine zw_if (fun c5 => ?_) (fun c5 => ?_)
  · refine zw_some ?_
    first | trivial | (try dsimp only); grind [zu_at, zu_atL]
  refine zw_zb0 (sf_X8_sample s_25.2.2.1 v2_0 v3_0 f6 f7 f8 f9 f10 f12 s_25.2.2.2.1 s_25.2.2.2.2 (by grind [zu_at, zu_atL]) (by grind [zu_at, zu_atL]) (by grind [zu_at, zu_atL])) (fun o_27 ho_27 => ?_)
  refine zw_zg32 14 (by decide) (by grind [zu_at, zu_atL]) ?_
  refine zw_zn (fun x_32 ex_32 => ?_)
  exact hback_25 _ (by grind [zu_at, zu_atL]) (by grind [zu_at, zu_atL]) (by grind [zu_at, zu_atL])
set_option maxHeartbeats 1000000 in
theorem sf_X11_trial (p1 : Int32) (p2 : Int32) (v0_15 : Int32) (v1_0 : Int32) (v2_0 : Int32) (v3_2 : Int32) (v4_1 : Int32) (v4_2 : Int32) (f5 : Nat → Int32) (f6 : Nat → Int32) (f7 : Nat → Int32) (f8 : Nat → Int32) (f9 : Nat → Int32) (f10 : Nat → Int64) (f11 : Nat → Int32) (f13 : Nat → Int64) (f14 : Nat → Int64) (f15 : Nat → Int32) (f16 : Nat → Int32) (f18 : Nat → Int64) (f19 : Nat → Int64) (h_p2 : 0 ≤ p2 ∧ p2 ≤ 1) (h_v1_0 : 0 ≤ v1_0 ∧ v1_0 ≤ 4) (h_v2_0 : 0 ≤ v2_0 ∧ v2_0 ≤ 14) (h_v3_2 : 0 ≤ v3_2 ∧ v3_2 ≤ 1) (h_f5 : (∀ i : Nat, 0 ≤ f5 i ∧ f5 i ≤ 13)) : zw (fn_X11_trial p1 p2 v0_15 v1_0 v2_0 v3_2 v4_1 v4_2 f5 f6 f7 f8 f9 f10 f11 f13 f14 f15 f16 f18 f19) (fun r => (¬ r.1 = (-1000000000000000) → 0 ≤ p1 ∧ (-2) ≤ r.2.1 ∧ 0 ≤ r.2.2.1 ∧ p1 < v2_0 ∧ p2 ≤ r.2.1 + 3 ∧ p2 ≤ r.2.2.1 + 1 ∧ r.2.1 ≤ (-2) ∧ r.2.1 + 2 ≤ p1 ∧ r.2.1 + 2 ≤ p2 ∧ r.2.1 + 2 ≤ r.2.2.1 ∧ r.2.1 + 2 ≤ v1_0 ∧ r.2.1 + 2 ≤ v3_2 ∧ r.2.2.1 ≤ 0 ∧ r.2.2.1 ≤ p1 ∧ r.2.2.1 ≤ p2 ∧ r.2.2.1 ≤ r.2.1 + 2 ∧ r.2.2.1 ≤ v1_0 ∧ r.2.2.1 ≤ v3_2 ∧ v1_0 ≤ r.2.1 + 6 ∧ v1_0 ≤ r.2.2.1 + 4 ∧ v2_0 ≤ r.2.1 + 16 ∧ v2_0 ≤ r.2.2.1 + 14 ∧ v3_2 ≤ 0 ∧ v3_2 ≤ p1 ∧ v3_2 ≤ p2 ∧ v3_2 ≤ r.2.1 + 2 ∧ v3_2 ≤ r.2.2.1 ∧ v3_2 ≤ v1_0)) := by
  unfold fn_X11_trial
  refine zw_zb0 (sf_X9_hasNumber p1 v2_0 (by grind [zu_at, zu_atL])) (fun o_1 ho_1 => ?_)
  refine zw_if (fun c1 => ?_) (fun c1 => ?_)
  · refine zw_some ?_
    first | trivial | (try dsimp only); grind [zu_at, zu_atL]
  refine zw_zb0 (sf_X11_handPasses v1_0 v2_0 v3_2 v4_1 v4_2 f5 f6 f7 f8 f9 f10 f11 f13 f14 f15 f16 (by grind [zu_at, zu_atL]) (by grind [zu_at, zu_atL]) (by grind [zu_at, zu_atL]) (by grind [zu_at, zu_atL])) (fun o_6 ho_6 => ?_)
  refine zw_if (fun c2 => ?_) (fun c2 => ?_)
  · refine zw_some ?_
    first | trivial | (try dsimp only); grind [zu_at, zu_atL]
  refine zw_zb0 (sf_X8_sample v0_15 v1_0 v2_0 f5 f6 f7 f8 f9 f11 f18 f19 (by grind [zu_at, zu_atL]) (by grind [zu_at, zu_atL]) (by grind [zu_at, zu_atL])) (fun o_11 ho_11 => ?_)
  refine zw_if (fun c3 => ?_) (fun c3 => ?_)
  · refine zw_zg32 14 (by decide) (by grind [zu_at, zu_atL]) ?_
    refine zw_some ?_
    first | trivial | (try dsimp only); grind [zu_at, zu_atL]
  refine zw_zg32 14 (by decide) (by grind [zu_at, zu_atL]) ?_
  refine zw_some ?_
  first | trivial | (try dsimp only); grind [zu_at, zu_atL]
set_option maxHeartbeats 1000000 in
theorem sf_X11_seed (p1 : Int32) (v0_15 : Int32) (f1 : Nat → Int32) : zw (fn_X11_seed p1 v0_15 f1) (fun r => 0 ≤ r.1 ∧ r.1 ≤ 1 ∧ (r.1 = 1 → 0 ≤ p1 ∧ 0 ≤ r.2.1 ∧ p1 ≤ r.2.1 ∧ r.1 ≤ p1 + 1 ∧ r.1 ≤ r.2.1 + 1 ∧ r.2.1 ≤ p1) ∧ (¬ r.1 = 1 → p1 ≤ (-1) ∧ p1 < r.1 ∧ r.1 ≤ 0 ∧ r.2.1 ≤ v0_15 ∧ v0_15 ≤ r.2.1) ∧ (r.1 = 0 → p1 ≤ (-1) ∧ p1 < r.1 ∧ r.2.1 ≤ v0_15 ∧ v0_15 ≤ r.2.1) ∧ (¬ r.1 = 0 → 0 ≤ p1 ∧ 1 ≤ r.1 ∧ 0 ≤ r.2.1 ∧ p1 ≤ r.2.1 ∧ r.1 ≤ p1 + 1 ∧ r.1 ≤ r.2.1 + 1 ∧ r.2.1 ≤ p1)) := by
  unfold fn_X11_seed
  refine zw_if (fun c1 => ?_) (fun c1 => ?_)
  · refine zw_some ?_
    first | trivial | (try dsimp only); grind [zu_at, zu_atL]
  refine zw_zb0 (sf_X11_refuse 4 f1) (fun o_2 ho_2 => ?_)
  refine zw_some ?_
  first | trivial | (try dsimp only); grind [zu_at, zu_atL]
set_option maxHeartbeats 1000000 in
theorem sf_X11_status (p1 : Int32) (f1 : Nat → Int32) : zw (fn_X11_status p1 f1) (fun r => (¬ r = (-1) → (f1 p1.toNatClampNeg) ≤ r ∧ 0 ≤ p1 ∧ p1 ≤ 4 ∧ r ≤ (f1 p1.toNatClampNeg))) := by
  unfold fn_X11_status
  refine zw_if (fun c1 => ?_) (fun c1 => ?_)
  · refine zw_some ?_
    first | trivial | (try dsimp only); grind [zu_at, zu_atL]
  refine zw_if (fun c2 => ?_) (fun c2 => ?_)
  · refine zw_some ?_
    first | trivial | (try dsimp only); grind [zu_at, zu_atL]
  refine zw_zg32 5 (by decide) (by grind [zu_at, zu_atL]) ?_
  refine zw_some ?_
  first | trivial | (try dsimp only); grind [zu_at, zu_atL]
set_option maxHeartbeats 1000000 in
theorem sf_X12_isIn (j0 : Int64) (j1 : Int64) (j2 : Int64) : zw (fn_X12_isIn j0 j1 j2) (fun r => 0 ≤ r ∧ r ≤ 1 ∧ (¬ r = 0 → 1 ≤ r ∧ j0 ≤ j2 ∧ j1 ≤ j0) ∧ (r = 1 → j0 ≤ j2 ∧ j1 ≤ j0) ∧ (¬ r = 1 → r ≤ 0)) := by
  unfold fn_X12_isIn
  refine zw_if (fun c1 => ?_) (fun c1 => ?_)
  · refine zw_some ?_
    first | trivial | (try dsimp only); grind [zu_at, zu_atL]
  refine zw_if (fun c2 => ?_) (fun c2 => ?_)
  · refine zw_some ?_
    first | trivial | (try dsimp only); grind [zu_at, zu_atL]
  refine zw_some ?_
  first | trivial | (try dsimp only); grind [zu_at, zu_atL]
set_option maxHeartbeats 1000000 in
theorem sf_X12_amount (j0 : Int64) : zw (fn_X12_amount j0) (fun r => ((0 ≤ j0 ∧ 0 ≤ r ∧ j0 ≤ r ∧ r ≤ j0) ∨ ((-j0) ≤ r ∧ j0 ≤ (-1) ∧ r ≤ (-j0)))) := by
  unfold fn_X12_amount
  refine zw_if (fun c1 => ?_) (fun c1 => ?_)
  · refine zw_some ?_
    first | trivial | (try dsimp only); grind [zu_at, zu_atL]
  refine zw_some ?_
  first | trivial | (try dsimp only); grind [zu_at, zu_atL]
set_option maxHeartbeats 1000000 in
theorem sf_X12_greater (j0 : Int64) (j1 : Int64) : zw (fn_X12_greater j0 j1) (fun r => ((j0 ≤ j1 ∧ j0 ≤ r ∧ j1 ≤ r ∧ r ≤ j1) ∨ (j0 ≤ r ∧ j1 < j0 ∧ j1 < r ∧ r ≤ j0))) := by
  unfold fn_X12_greater
  refine zw_if (fun c1 => ?_) (fun c1 => ?_)
  · refine zw_some ?_
    first | trivial | (try dsimp only); grind [zu_at, zu_atL]
  refine zw_some ?_
  first | trivial | (try dsimp only); grind [zu_at, zu_atL]
set_option maxHeartbeats 1000000 in
theorem sf_X12_lesser (j0 : Int64) (j1 : Int64) : zw (fn_X12_lesser j0 j1) (fun r => ((j1 ≤ j0 ∧ j1 ≤ r ∧ r ≤ j0 ∧ r ≤ j1) ∨ (j0 < j1 ∧ j0 ≤ r ∧ r ≤ j0 ∧ r < j1))) := by
  unfold fn_X12_lesser
  refine zw_if (fun c1 => ?_) (fun c1 => ?_)
  · refine zw_some ?_
    first | trivial | (try dsimp only); grind [zu_at, zu_atL]
  refine zw_some ?_
  first | trivial | (try dsimp only); grind [zu_at, zu_atL]
set_option maxHeartbeats 1000000 in
theorem sf_X12_floor (j0 : Int64) (j1 : Int64) (hx_0 : ¬ j1 = 0) : zw (fn_X12_floor j0 j1) (fun r => True) := by
  unfold fn_X12_floor
  refine zw_zd (by grind [zu_at, zu_atL]) ?_
  refine zw_zd (by grind [zu_at, zu_atL]) ?_
  refine zw_if (fun c1 => ?_) (fun c1 => ?_)
  · refine zw_some ?_
    first | trivial | (try dsimp only); grind [zu_at, zu_atL]
  refine zw_if (fun c2 => ?_) (fun c2 => ?_)
  · refine zw_some ?_
    first | trivial | (try dsimp only); grind [zu_at, zu_atL]
  refine zw_some ?_
  first | trivial | (try dsimp only); grind [zu_at, zu_atL]
set_option maxHeartbeats 1000000 in
theorem sf_X12_refuses (p1 : Int32) (f1 : Nat → Int32) (h_p1 : 0 ≤ p1 ∧ p1 ≤ 4) : zw (fn_X12_refuses p1 f1) (fun r => (-1) ≤ r.1 ∧ p1 ≤ r.1 + 5 ∧ r.1 ≤ (-1) ∧ r.1 < p1) := by
  unfold fn_X12_refuses
  refine zw_zg32 5 (by decide) (by grind [zu_at, zu_atL]) ?_
  refine zw_some ?_
  first | trivial | (try dsimp only); grind [zu_at, zu_atL]
set_option maxHeartbeats 1000000 in
theorem sf_X12_isRefused (p1 : Int32) (f1 : Nat → Int32) (h_p1 : 0 ≤ p1 ∧ p1 ≤ 4) : zw (fn_X12_isRefused p1 f1) (fun r => 0 ≤ r.1 ∧ r.1 ≤ 1 ∧ r.1 ≤ 0 ∧ r.1 ≤ p1) := by
  unfold fn_X12_isRefused
  refine zw_zg32 5 (by decide) (by grind [zu_at, zu_atL]) ?_
  refine zw_some ?_
  first | trivial | (try dsimp only); grind [zu_at, zu_atL]
set_option maxHeartbeats 1000000 in
theorem sf_X12_lays (p1 : Int32) (v0_1 : Int32) (f1 : Nat → Int32) (h_v0_1 : 0 ≤ v0_1 ∧ v0_1 ≤ 1196) (h_f1 : (∀ i : Nat, 0 ≤ f1 i ∧ f1 i ≤ 255)) : zw (fn_X12_lays p1 v0_1 f1) (fun r => 0 ≤ r.1 ∧ r.1 ≤ 1200 ∧ (∀ i : Nat, 0 ≤ r.2 i ∧ r.2 i ≤ 255) ∧ 4 ≤ r.1 ∧ r.1 ≤ v0_1 + 4 ∧ v0_1 + 4 ≤ r.1) := by
  unfold fn_X12_lays
  refine zw_zl32 (fun s_1 => (∀ i : Nat, 0 ≤ s_1.2 i ∧ s_1.2 i ≤ 255) ∧ 0 ≤ s_1.1 ∧ s_1.1 ≤ 4) (fun s_1 => 4 - s_1.1) (by (try dsimp only); grind [zu_at, zu_atL]) (by (try dsimp only); grind [zu_at, zu_atL]) (fun s_1 back_1 Hback_1 hback_1 => ?_)
  refine zw_if (fun c1 => ?_) (fun c1 => ?_)
  · refine zw_some ?_
    first | trivial | (try dsimp only); grind [zu_at, zu_atL]
  refine zw_zg32 1200 (by decide) (by grind [zu_at, zu_atL]) ?_
  refine zw_zn (fun g_4 eg_4 => ?_)
  exact hback_1 _ (by grind [zu_at, zu_atL]) (by grind [zu_at, zu_atL]) (by grind [zu_at, zu_atL])
set_option maxHeartbeats 1000000 in
theorem sf_X12_feed (p1 : Int32) (p2 : Int32) (p3 : Int32) (p4 : Int32) (p5 : Int32) (v0_1 : Int32) (f1 : Nat → Int32) (f2 : Nat → Int32) (h_v0_1 : 0 ≤ v0_1 ∧ v0_1 ≤ 1200) (h_f1 : (∀ i : Nat, 0 ≤ f1 i ∧ f1 i ≤ 255)) : zw (fn_X12_feed p1 p2 p3 p4 p5 v0_1 f1 f2) (fun r => 0 ≤ r.2.1 ∧ r.2.1 ≤ 1200 ∧ (∀ i : Nat, 0 ≤ r.2.2.1 i ∧ r.2.2.1 i ≤ 255) ∧ (-1) ≤ r.1 ∧ 20 ≤ r.2.1 ∧ r.1 ≤ r.2.1 ∧ r.2.1 ≤ v0_1 + 20 ∧ v0_1 ≤ r.2.1 ∧ (r.1 = (-1) → 1181 ≤ r.2.1 ∧ 1181 ≤ v0_1 ∧ r.2.1 ≤ v0_1) ∧ (¬ r.1 = (-1) → 20 ≤ r.1 ∧ r.2.1 ≤ r.1 ∧ v0_1 ≤ 1180 ∧ v0_1 + 20 ≤ r.1 ∧ v0_1 + 20 ≤ r.2.1)) := by
  unfold fn_X12_feed
  refine zw_if (fun c1 => ?_) (fun c1 => ?_)
  · refine zw_zb0 (sf_X12_lays p1 v0_1 f1 (by grind [zu_at, zu_atL]) (by grind [zu_at, zu_atL])) (fun o_2 ho_2 => ?_)
    refine zw_zb0 (sf_X12_lays p2 o_2.1 o_2.2 (by grind [zu_at, zu_atL]) (by grind [zu_at, zu_atL])) (fun o_6 ho_6 => ?_)
    refine zw_zb0 (sf_X12_lays p3 o_6.1 o_6.2 (by grind [zu_at, zu_atL]) (by grind [zu_at, zu_atL])) (fun o_10 ho_10 => ?_)
    refine zw_zb0 (sf_X12_lays p4 o_10.1 o_10.2 (by grind [zu_at, zu_atL]) (by grind [zu_at, zu_atL])) (fun o_14 ho_14 => ?_)
    refine zw_zb0 (sf_X12_lays p5 o_14.1 o_14.2 (by grind [zu_at, zu_atL]) (by grind [zu_at, zu_atL])) (fun o_18 ho_18 => ?_)
    refine zw_some ?_
    first | trivial | (try dsimp only); grind [zu_at, zu_atL]
  refine zw_zb0 (sf_X12_refuses 0 f2 (by grind [zu_at, zu_atL])) (fun o_22 ho_22 => ?_)
  refine zw_some ?_
  first | trivial | (try dsimp only); grind [zu_at, zu_atL]
set_option maxHeartbeats 1000000 in
theorem sf_X12_end (p1 : Int32) (v0_1 : Int32) (f1 : Nat → Int32) (h_v0_1 : 0 ≤ v0_1 ∧ v0_1 ≤ 1200) : zw (fn_X12_end p1 v0_1 f1) (fun r => 0 ≤ r.1 ∧ r.1 ≤ 1 ∧ 0 ≤ r.2.1 ∧ r.2.1 ≤ 1200 ∧ r.2.1 ≤ v0_1 ∧ (r.1 = 0 → r.1 ≤ r.2.1 ∧ r.1 ≤ v0_1 ∧ v0_1 ≤ r.2.1) ∧ (¬ r.1 = 0 → 0 ≤ p1 ∧ 1 ≤ r.1 ∧ p1 ≤ r.2.1 ∧ p1 ≤ v0_1 ∧ r.1 ≤ p1 + 1 ∧ r.2.1 ≤ p1) ∧ (r.1 = 1 → 0 ≤ p1 ∧ p1 ≤ r.2.1 ∧ p1 ≤ v0_1 ∧ r.1 ≤ p1 + 1 ∧ r.2.1 ≤ p1) ∧ (¬ r.1 = 1 → r.1 ≤ 0 ∧ r.1 ≤ r.2.1 ∧ r.1 ≤ v0_1 ∧ v0_1 ≤ r.2.1)) := by
  unfold fn_X12_end
  refine zw_if (fun c1 => ?_) (fun c1 => ?_)
  · refine zw_zb0 (sf_X12_isRefused 0 f1 (by grind [zu_at, zu_atL])) (fun o_2 ho_2 => ?_)
    refine zw_some ?_
    first | trivial | (try dsimp only); grind [zu_at, zu_atL]
  refine zw_if (fun c2 => ?_) (fun c2 => ?_)
  · refine zw_some ?_
    first | trivial | (try dsimp only); grind [zu_at, zu_atL]
  refine zw_zb0 (sf_X12_isRefused 0 f1 (by grind [zu_at, zu_atL])) (fun o_7 ho_7 => ?_)
  refine zw_some ?_
  first | trivial | (try dsimp only); grind [zu_at, zu_atL]
set_option maxHeartbeats 1000000 in
theorem sf_X12_byteAt (p1 : Int32) (v0_5 : Int32) (f1 : Nat → Int32) (h_v0_5 : 0 ≤ v0_5 ∧ v0_5 ≤ 1200) (h_f1 : (∀ i : Nat, 0 ≤ f1 i ∧ f1 i ≤ 255)) : zw (fn_X12_byteAt p1 v0_5 f1) (fun r => (-1) ≤ r ∧ r ≤ 255 ∧ (r = (-1) → r < v0_5) ∧ (¬ r = (-1) → (f1 p1.toNatClampNeg) ≤ 255 ∧ (f1 p1.toNatClampNeg) ≤ r ∧ 0 ≤ (f1 p1.toNatClampNeg) ∧ 0 ≤ p1 ∧ 0 ≤ r ∧ p1 < v0_5 ∧ r ≤ (f1 p1.toNatClampNeg))) := by
  unfold fn_X12_byteAt
  refine zw_if (fun c1 => ?_) (fun c1 => ?_)
  · refine zw_some ?_
    first | trivial | (try dsimp only); grind [zu_at, zu_atL]
  refine zw_if (fun c2 => ?_) (fun c2 => ?_)
  · refine zw_some ?_
    first | trivial | (try dsimp only); grind [zu_at, zu_atL]
  refine zw_zg32 1200 (by decide) (by grind [zu_at, zu_atL]) ?_
  refine zw_some ?_
  first | trivial | (try dsimp only); grind [zu_at, zu_atL]
set_option maxHeartbeats 1000000 in
theorem sf_X12_isSmall (p1 : Int32) (v0_5 : Int32) (f1 : Nat → Int32) (h_v0_5 : 0 ≤ v0_5 ∧ v0_5 ≤ 1200) (h_f1 : (∀ i : Nat, 0 ≤ f1 i ∧ f1 i ≤ 255)) : zw (fn_X12_isSmall p1 v0_5 f1) (fun r => 0 ≤ r ∧ r ≤ 1 ∧ r ≤ v0_5 ∧ (¬ r = 0 → (f1 p1.toNatClampNeg) ≤ 255 ∧ 97 ≤ (f1 p1.toNatClampNeg) ∧ 0 ≤ p1 ∧ 1 ≤ r ∧ p1 < v0_5 ∧ r ≤ p1 + 1) ∧ (r = 1 → (f1 p1.toNatClampNeg) ≤ 255 ∧ 97 ≤ (f1 p1.toNatClampNeg) ∧ 0 ≤ p1 ∧ p1 < v0_5 ∧ r ≤ p1 + 1) ∧ (¬ r = 1 → r ≤ 0)) := by
  unfold fn_X12_isSmall
  refine zw_zb0 (sf_X12_byteAt p1 v0_5 f1 (by grind [zu_at, zu_atL]) (by grind [zu_at, zu_atL])) (fun o_1 ho_1 => ?_)
  refine zw_if (fun c1 => ?_) (fun c1 => ?_)
  · refine zw_some ?_
    first | trivial | (try dsimp only); grind [zu_at, zu_atL]
  refine zw_zb0 (sf_X12_byteAt p1 v0_5 f1 (by grind [zu_at, zu_atL]) (by grind [zu_at, zu_atL])) (fun o_6 ho_6 => ?_)
  refine zw_if (fun c2 => ?_) (fun c2 => ?_)
  · refine zw_some ?_
    first | trivial | (try dsimp only); grind [zu_at, zu_atL]
  refine zw_some ?_
  first | trivial | (try dsimp only); grind [zu_at, zu_atL]
set_option maxHeartbeats 1000000 in
theorem sf_X12_isDigit (p1 : Int32) (v0_5 : Int32) (f1 : Nat → Int32) (h_v0_5 : 0 ≤ v0_5 ∧ v0_5 ≤ 1200) (h_f1 : (∀ i : Nat, 0 ≤ f1 i ∧ f1 i ≤ 255)) : zw (fn_X12_isDigit p1 v0_5 f1) (fun r => 0 ≤ r ∧ r ≤ 1 ∧ r ≤ v0_5 ∧ (¬ r = 0 → (f1 p1.toNatClampNeg) ≤ 255 ∧ 48 ≤ (f1 p1.toNatClampNeg) ∧ 0 ≤ p1 ∧ 1 ≤ r ∧ p1 < v0_5 ∧ r ≤ p1 + 1) ∧ (r = 1 → (f1 p1.toNatClampNeg) ≤ 255 ∧ 48 ≤ (f1 p1.toNatClampNeg) ∧ 0 ≤ p1 ∧ p1 < v0_5 ∧ r ≤ p1 + 1) ∧ (¬ r = 1 → r ≤ 0)) := by
  unfold fn_X12_isDigit
  refine zw_zb0 (sf_X12_byteAt p1 v0_5 f1 (by grind [zu_at, zu_atL]) (by grind [zu_at, zu_atL])) (fun o_1 ho_1 => ?_)
  refine zw_if (fun c1 => ?_) (fun c1 => ?_)
  · refine zw_some ?_
    first | trivial | (try dsimp only); grind [zu_at, zu_atL]
  refine zw_zb0 (sf_X12_byteAt p1 v0_5 f1 (by grind [zu_at, zu_atL]) (by grind [zu_at, zu_atL])) (fun o_6 ho_6 => ?_)
  refine zw_if (fun c2 => ?_) (fun c2 => ?_)
  · refine zw_some ?_
    first | trivial | (try dsimp only); grind [zu_at, zu_atL]
  refine zw_some ?_
  first | trivial | (try dsimp only); grind [zu_at, zu_atL]
set_option maxHeartbeats 1000000 in
theorem sf_X12_here (v0_5 : Int32) (v0_6 : Int32) (f1 : Nat → Int32) (h_v0_5 : 0 ≤ v0_5 ∧ v0_5 ≤ 1200) (h_v0_6 : 0 ≤ v0_6 ∧ v0_6 ≤ 1200) (h_f1 : (∀ i : Nat, 0 ≤ f1 i ∧ f1 i ≤ 255)) : zw (fn_X12_here v0_5 v0_6 f1) (fun r => 0 ≤ r.2 ∧ r.2 ≤ 1200 ∧ (-1) ≤ r.1 ∧ r.1 ≤ 255 ∧ v0_6 ≤ r.2 ∧ (r.1 = (-1) → r.1 < v0_5 ∧ r.1 < v0_6) ∧ (¬ r.1 = (-1) → 0 ≤ r.1 ∧ r.2 < v0_5)) := by
  unfold fn_X12_here
  refine zw_zl32 (fun s_1 => s_1 ≤ 1200 ∧ v0_6 ≤ s_1) (fun s_1 => 1200 - s_1) (by (try dsimp only); grind [zu_at, zu_atL]) (by (try dsimp only); grind [zu_at, zu_atL]) (fun s_1 back_1 Hback_1 hback_1 => ?_)
  refine zw_zb0 (sf_X12_byteAt s_1 v0_5 f1 (by grind [zu_at, zu_atL]) (by grind [zu_at, zu_atL])) (fun o_2 ho_2 => ?_)
  refine zw_if (fun c1 => ?_) (fun c1 => ?_)
  · exact hback_1 _ (by grind [zu_at, zu_atL]) (by grind [zu_at, zu_atL]) (by grind [zu_at, zu_atL])
  refine zw_zb0 (sf_X12_byteAt s_1 v0_5 f1 (by grind [zu_at, zu_atL]) (by grind [zu_at, zu_atL])) (fun o_7 ho_7 => ?_)
  refine zw_if (fun c2 => ?_) (fun c2 => ?_)
  · exact hback_1 _ (by grind [zu_at, zu_atL]) (by grind [zu_at, zu_atL]) (by grind [zu_at, zu_atL])
  refine zw_zb0 (sf_X12_byteAt s_1 v0_5 f1 (by grind [zu_at, zu_atL]) (by grind [zu_at, zu_atL])) (fun o_12 ho_12 => ?_)
  refine zw_some ?_
  first | trivial | (try dsimp only); grind [zu_at, zu_atL]
set_option maxHeartbeats 1000000 in
theorem sf_X12_faults (p1 : Int32) (p2 : Int32) (v0_8 : Int32) (v0_9 : Int32) (h_p1 : 1 ≤ p1 ∧ p1 ≤ 4) (h_v0_8 : 0 ≤ v0_8 ∧ v0_8 ≤ 4) : zw (fn_X12_faults p1 p2 v0_8 v0_9) (fun r => 0 ≤ r.1 ∧ r.1 ≤ 4 ∧ 1 ≤ r.1 ∧ v0_8 ≤ r.1) := by
  unfold fn_X12_faults
  refine zw_if (fun c1 => ?_) (fun c1 => ?_)
  · refine zw_some ?_
    first | trivial | (try dsimp only); grind [zu_at, zu_atL]
  refine zw_some ?_
  first | trivial | (try dsimp only); grind [zu_at, zu_atL]
set_option maxHeartbeats 1000000 in
theorem sf_X12_goesWell (v0_8 : Int32) (h_v0_8 : 0 ≤ v0_8 ∧ v0_8 ≤ 4) : zw (fn_X12_goesWell v0_8) (fun r => 0 ≤ r ∧ r ≤ 1 ∧ (r = 1 → v0_8 ≤ 0 ∧ v0_8 < r) ∧ (¬ r = 1 → 1 ≤ v0_8 ∧ r ≤ 0 ∧ r < v0_8) ∧ (r = 0 → 1 ≤ v0_8 ∧ r < v0_8) ∧ (¬ r = 0 → 1 ≤ r ∧ v0_8 ≤ 0 ∧ v0_8 < r)) := by
  unfold fn_X12_goesWell
  refine zw_if (fun c1 => ?_) (fun c1 => ?_)
  · refine zw_some ?_
    first | trivial | (try dsimp only); grind [zu_at, zu_atL]
  refine zw_some ?_
  first | trivial | (try dsimp only); grind [zu_at, zu_atL]
set_option maxHeartbeats 1000000 in
theorem sf_X12_mark (p1 : Int32) (v0_5 : Int32) (v0_6 : Int32) (v0_8 : Int32) (v0_9 : Int32) (f1 : Nat → Int32) (h_p1 : 0 ≤ p1 ∧ p1 ≤ 255) (h_v0_5 : 0 ≤ v0_5 ∧ v0_5 ≤ 1200) (h_v0_6 : 0 ≤ v0_6 ∧ v0_6 ≤ 1200) (h_v0_8 : 0 ≤ v0_8 ∧ v0_8 ≤ 4) (h_f1 : (∀ i : Nat, 0 ≤ f1 i ∧ f1 i ≤ 255)) : zw (fn_X12_mark p1 v0_5 v0_6 v0_8 v0_9 f1) (fun r => 0 ≤ r.1 ∧ r.1 ≤ 1200 ∧ 0 ≤ r.2.1 ∧ r.2.1 ≤ 4 ∧ v0_6 ≤ r.1 ∧ v0_8 ≤ r.2.1) := by
  unfold fn_X12_mark
  refine zw_zb0 (sf_X12_goesWell v0_8 (by grind [zu_at, zu_atL])) (fun o_1 ho_1 => ?_)
  refine zw_if (fun c1 => ?_) (fun c1 => ?_)
  · refine zw_some ?_
    first | trivial | (try dsimp only); grind [zu_at, zu_atL]
  refine zw_zb0 (sf_X12_here v0_5 v0_6 f1 (by grind [zu_at, zu_atL]) (by grind [zu_at, zu_atL]) (by grind [zu_at, zu_atL])) (fun o_6 ho_6 => ?_)
  refine zw_if (fun c2 => ?_) (fun c2 => ?_)
  · refine zw_some ?_
    first | trivial | (try dsimp only); grind [zu_at, zu_atL]
  refine zw_zb0 (sf_X12_faults 1 o_6.2 v0_8 v0_9 (by grind [zu_at, zu_atL]) (by grind [zu_at, zu_atL])) (fun o_11 ho_11 => ?_)
  refine zw_some ?_
  first | trivial | (try dsimp only); grind [zu_at, zu_atL]
def zTab (k : Nat) : Int32 := ([6, 15, 18, 13, 1, 20, 0, 19, 20, 5, 16, 0, 13, 15, 19, 20, 0, 3, 15, 19, 20, 0, 3, 1, 19, 20, 0, 9, 14, 16, 21, 20, 0, 12, 5, 20, 0, 13, 9, 14, 0, 13, 1, 24, 0, 6, 9, 24, 5, 4, 0, 7, 18, 15, 21, 16, 0, 1, 14, 19, 23, 5, 18, 0, 23, 9, 20, 8, 9, 14, 0] : List Int32).getD k 0
def zPair (n k : Int32) : Prop := n = 0 ∧ k = 0 ∨ n = 1 ∧ k = 7 ∨ n = 2 ∧ k = 12 ∨ n = 3 ∧ k = 17 ∨ n = 4 ∧ k = 22 ∨ n = 5 ∧ k = 27 ∨ n = 6 ∧ k = 33 ∨ n = 7 ∧ k = 37 ∨ n = 8 ∧ k = 41 ∨ n = 9 ∧ k = 45 ∨ n = 10 ∧ k = 51 ∨ n = 11 ∧ k = 57 ∨ n = 12 ∧ k = 64 ∨ n = 13 ∧ k = 71
theorem zTab_ne {f1 : Nat → Int32} (hT : ∀ k : Nat, k < 71 → f1 k = zTab k) (c : Int32) (h : decide (c.toNatClampNeg < 71 ∧ ¬ zTab c.toNatClampNeg = 0) = true) : ¬ f1 c.toNatClampNeg = 0 := by
  have h := of_decide_eq_true h
  rw [hT _ h.1]; exact h.2
theorem zTab_eq {f1 : Nat → Int32} (hT : ∀ k : Nat, k < 71 → f1 k = zTab k) (c : Int32) (h : decide (c.toNatClampNeg < 71 ∧ zTab c.toNatClampNeg = 0) = true) : f1 c.toNatClampNeg = 0 := by
  have h := of_decide_eq_true h
  rw [hT _ h.1]; exact h.2
theorem zTabW (f1 : Nat → Int32) (hT : ∀ k : Nat, k < 71 → f1 k = zTab k) (n k : Int32) (hp : zPair n k) (hn : n ≤ 12) : ∃ e : Int32, 0 ≤ k ∧ k ≤ e ∧ e ≤ 70 ∧ f1 e.toNatClampNeg = 0 ∧ (∀ x : Int32, k ≤ x → x < e → ¬ f1 x.toNatClampNeg = 0) ∧ zPair (n + 1) (e + 1) := by
  unfold zPair at hp
  rcases hp with ⟨rfl, rfl⟩ | ⟨rfl, rfl⟩ | ⟨rfl, rfl⟩ | ⟨rfl, rfl⟩ | ⟨rfl, rfl⟩ | ⟨rfl, rfl⟩ | ⟨rfl, rfl⟩ | ⟨rfl, rfl⟩ | ⟨rfl, rfl⟩ | ⟨rfl, rfl⟩ | ⟨rfl, rfl⟩ | ⟨rfl, rfl⟩ | ⟨rfl, rfl⟩ | ⟨rfl, rfl⟩
  · refine ⟨6, by decide, by decide, by decide, zTab_eq hT 6 (by decide +kernel), fun x h1 h2 => ?_, ?_⟩
    · rcases (show x = 0 ∨ x = 1 ∨ x = 2 ∨ x = 3 ∨ x = 4 ∨ x = 5 by grind) with rfl | rfl | rfl | rfl | rfl | rfl
      · exact zTab_ne hT 0 (by decide +kernel)
      · exact zTab_ne hT 1 (by decide +kernel)
      · exact zTab_ne hT 2 (by decide +kernel)
      · exact zTab_ne hT 3 (by decide +kernel)
      · exact zTab_ne hT 4 (by decide +kernel)
      · exact zTab_ne hT 5 (by decide +kernel)
    · unfold zPair; exact Or.inr (Or.inl ⟨by decide, by decide⟩)
  · refine ⟨11, by decide, by decide, by decide, zTab_eq hT 11 (by decide +kernel), fun x h1 h2 => ?_, ?_⟩
    · rcases (show x = 7 ∨ x = 8 ∨ x = 9 ∨ x = 10 by grind) with rfl | rfl | rfl | rfl
      · exact zTab_ne hT 7 (by decide +kernel)
      · exact zTab_ne hT 8 (by decide +kernel)
      · exact zTab_ne hT 9 (by decide +kernel)
      · exact zTab_ne hT 10 (by decide +kernel)
    · unfold zPair; exact Or.inr (Or.inr (Or.inl ⟨by decide, by decide⟩))
  · refine ⟨16, by decide, by decide, by decide, zTab_eq hT 16 (by decide +kernel), fun x h1 h2 => ?_, ?_⟩
    · rcases (show x = 12 ∨ x = 13 ∨ x = 14 ∨ x = 15 by grind) with rfl | rfl | rfl | rfl
      · exact zTab_ne hT 12 (by decide +kernel)
      · exact zTab_ne hT 13 (by decide +kernel)
      · exact zTab_ne hT 14 (by decide +kernel)
      · exact zTab_ne hT 15 (by decide +kernel)
    · unfold zPair; exact Or.inr (Or.inr (Or.inr (Or.inl ⟨by decide, by decide⟩)))
  · refine ⟨21, by decide, by decide, by decide, zTab_eq hT 21 (by decide +kernel), fun x h1 h2 => ?_, ?_⟩
    · rcases (show x = 17 ∨ x = 18 ∨ x = 19 ∨ x = 20 by grind) with rfl | rfl | rfl | rfl
      · exact zTab_ne hT 17 (by decide +kernel)
      · exact zTab_ne hT 18 (by decide +kernel)
      · exact zTab_ne hT 19 (by decide +kernel)
      · exact zTab_ne hT 20 (by decide +kernel)
    · unfold zPair; exact Or.inr (Or.inr (Or.inr (Or.inr (Or.inl ⟨by decide, by decide⟩))))
  · refine ⟨26, by decide, by decide, by decide, zTab_eq hT 26 (by decide +kernel), fun x h1 h2 => ?_, ?_⟩
    · rcases (show x = 22 ∨ x = 23 ∨ x = 24 ∨ x = 25 by grind) with rfl | rfl | rfl | rfl
      · exact zTab_ne hT 22 (by decide +kernel)
      · exact zTab_ne hT 23 (by decide +kernel)
      · exact zTab_ne hT 24 (by decide +kernel)
      · exact zTab_ne hT 25 (by decide +kernel)
    · unfold zPair; exact Or.inr (Or.inr (Or.inr (Or.inr (Or.inr (Or.inl ⟨by decide, by decide⟩)))))
  · refine ⟨32, by decide, by decide, by decide, zTab_eq hT 32 (by decide +kernel), fun x h1 h2 => ?_, ?_⟩
    · rcases (show x = 27 ∨ x = 28 ∨ x = 29 ∨ x = 30 ∨ x = 31 by grind) with rfl | rfl | rfl | rfl | rfl
      · exact zTab_ne hT 27 (by decide +kernel)
      · exact zTab_ne hT 28 (by decide +kernel)
      · exact zTab_ne hT 29 (by decide +kernel)
      · exact zTab_ne hT 30 (by decide +kernel)
      · exact zTab_ne hT 31 (by decide +kernel)
    · unfold zPair; exact Or.inr (Or.inr (Or.inr (Or.inr (Or.inr (Or.inr (Or.inl ⟨by decide, by decide⟩))))))
  · refine ⟨36, by decide, by decide, by decide, zTab_eq hT 36 (by decide +kernel), fun x h1 h2 => ?_, ?_⟩
    · rcases (show x = 33 ∨ x = 34 ∨ x = 35 by grind) with rfl | rfl | rfl
      · exact zTab_ne hT 33 (by decide +kernel)
      · exact zTab_ne hT 34 (by decide +kernel)
      · exact zTab_ne hT 35 (by decide +kernel)
    · unfold zPair; exact Or.inr (Or.inr (Or.inr (Or.inr (Or.inr (Or.inr (Or.inr (Or.inl ⟨by decide, by decide⟩)))))))
  · refine ⟨40, by decide, by decide, by decide, zTab_eq hT 40 (by decide +kernel), fun x h1 h2 => ?_, ?_⟩
    · rcases (show x = 37 ∨ x = 38 ∨ x = 39 by grind) with rfl | rfl | rfl
      · exact zTab_ne hT 37 (by decide +kernel)
      · exact zTab_ne hT 38 (by decide +kernel)
      · exact zTab_ne hT 39 (by decide +kernel)
    · unfold zPair; exact Or.inr (Or.inr (Or.inr (Or.inr (Or.inr (Or.inr (Or.inr (Or.inr (Or.inl ⟨by decide, by decide⟩))))))))
  · refine ⟨44, by decide, by decide, by decide, zTab_eq hT 44 (by decide +kernel), fun x h1 h2 => ?_, ?_⟩
    · rcases (show x = 41 ∨ x = 42 ∨ x = 43 by grind) with rfl | rfl | rfl
      · exact zTab_ne hT 41 (by decide +kernel)
      · exact zTab_ne hT 42 (by decide +kernel)
      · exact zTab_ne hT 43 (by decide +kernel)
    · unfold zPair; exact Or.inr (Or.inr (Or.inr (Or.inr (Or.inr (Or.inr (Or.inr (Or.inr (Or.inr (Or.inl ⟨by decide, by decide⟩)))))))))
  · refine ⟨50, by decide, by decide, by decide, zTab_eq hT 50 (by decide +kernel), fun x h1 h2 => ?_, ?_⟩
    · rcases (show x = 45 ∨ x = 46 ∨ x = 47 ∨ x = 48 ∨ x = 49 by grind) with rfl | rfl | rfl | rfl | rfl
      · exact zTab_ne hT 45 (by decide +kernel)
      · exact zTab_ne hT 46 (by decide +kernel)
      · exact zTab_ne hT 47 (by decide +kernel)
      · exact zTab_ne hT 48 (by decide +kernel)
      · exact zTab_ne hT 49 (by decide +kernel)
    · unfold zPair; exact Or.inr (Or.inr (Or.inr (Or.inr (Or.inr (Or.inr (Or.inr (Or.inr (Or.inr (Or.inr (Or.inl ⟨by decide, by decide⟩))))))))))
  · refine ⟨56, by decide, by decide, by decide, zTab_eq hT 56 (by decide +kernel), fun x h1 h2 => ?_, ?_⟩
    · rcases (show x = 51 ∨ x = 52 ∨ x = 53 ∨ x = 54 ∨ x = 55 by grind) with rfl | rfl | rfl | rfl | rfl
      · exact zTab_ne hT 51 (by decide +kernel)
      · exact zTab_ne hT 52 (by decide +kernel)
      · exact zTab_ne hT 53 (by decide +kernel)
      · exact zTab_ne hT 54 (by decide +kernel)
      · exact zTab_ne hT 55 (by decide +kernel)
    · unfold zPair; exact Or.inr (Or.inr (Or.inr (Or.inr (Or.inr (Or.inr (Or.inr (Or.inr (Or.inr (Or.inr (Or.inr (Or.inl ⟨by decide, by decide⟩)))))))))))
  · refine ⟨63, by decide, by decide, by decide, zTab_eq hT 63 (by decide +kernel), fun x h1 h2 => ?_, ?_⟩
    · rcases (show x = 57 ∨ x = 58 ∨ x = 59 ∨ x = 60 ∨ x = 61 ∨ x = 62 by grind) with rfl | rfl | rfl | rfl | rfl | rfl
      · exact zTab_ne hT 57 (by decide +kernel)
      · exact zTab_ne hT 58 (by decide +kernel)
      · exact zTab_ne hT 59 (by decide +kernel)
      · exact zTab_ne hT 60 (by decide +kernel)
      · exact zTab_ne hT 61 (by decide +kernel)
      · exact zTab_ne hT 62 (by decide +kernel)
    · unfold zPair; exact Or.inr (Or.inr (Or.inr (Or.inr (Or.inr (Or.inr (Or.inr (Or.inr (Or.inr (Or.inr (Or.inr (Or.inr (Or.inl ⟨by decide, by decide⟩))))))))))))
  · refine ⟨70, by decide, by decide, by decide, zTab_eq hT 70 (by decide +kernel), fun x h1 h2 => ?_, ?_⟩
    · rcases (show x = 64 ∨ x = 65 ∨ x = 66 ∨ x = 67 ∨ x = 68 ∨ x = 69 by grind) with rfl | rfl | rfl | rfl | rfl | rfl
      · exact zTab_ne hT 64 (by decide +kernel)
      · exact zTab_ne hT 65 (by decide +kernel)
      · exact zTab_ne hT 66 (by decide +kernel)
      · exact zTab_ne hT 67 (by decide +kernel)
      · exact zTab_ne hT 68 (by decide +kernel)
      · exact zTab_ne hT 69 (by decide +kernel)
    · unfold zPair; exact Or.inr (Or.inr (Or.inr (Or.inr (Or.inr (Or.inr (Or.inr (Or.inr (Or.inr (Or.inr (Or.inr (Or.inr (Or.inr (⟨by decide, by decide⟩)))))))))))))
  · exact absurd hn (by decide)
set_option maxHeartbeats 1000000 in
theorem sf_X12_own (v0_6 : Int32) (v0_7 : Int32) (f1 : Nat → Int32) (f2 : Nat → Int32) (h_v0_6 : 0 ≤ v0_6 ∧ v0_6 ≤ 1200) (h_v0_7 : 0 ≤ v0_7 ∧ v0_7 ≤ 1200) (hf2 : True) (hT : (∀ k : Nat, k < 71 → f1 k = zTab k)) : zw (fn_X12_own v0_6 v0_7 f1 f2) (fun r => (-1) ≤ r ∧ r ≤ 12) := by
  unfold fn_X12_own
  refine zw_zl32 (fun s_1 => zPair s_1.2 s_1.1 ∧ 0 ≤ s_1.2 ∧ s_1.2 ≤ 13) (fun s_1 => 13 - s_1.2) (by dsimp only; exact ⟨Or.inl ⟨rfl, rfl⟩, by decide, by decide⟩) (by dsimp only; decide) (fun s_1 back_1 H1 h1 => ?_)
  refine zw_if (fun c1 => ?_) (fun c1 => ?_)
  · refine zw_some ?_
    decide
  obtain ⟨e, he0, he1, he2, he3, he4, he5⟩ := zTabW f1 hT s_1.2 s_1.1 H1.1 (by grind)
  have H2 := H1.2
  clear H1
  refine zw_zl32 (fun s_3 => 0 ≤ s_3 ∧ s_1.1 + s_3 ≤ e ∧ s_3 ≤ 70) (fun s_3 => e - (s_1.1 + s_3)) (by dsimp only; grind) (by dsimp only; grind) (fun s_3 back_3 H3 h3 => ?_)
  have J : zw (zl (fun (s_8 : Int32) back_8 => (zg s_8 71 (if (f1 s_8.toNatClampNeg) = 0 then (back_1 ((s_8 + 1), (s_1.2 + 1))) else (back_8 (s_8 + 1))))) 100000 s_1.1) (fun r => (-1) ≤ r ∧ r ≤ 12) := by
    refine zw_zl32 (fun s_8 => s_1.1 ≤ s_8 ∧ s_8 ≤ e) (fun s_8 => e - s_8) (by dsimp only; grind) (by dsimp only; grind) (fun s_8 back_8 H8 h8 => ?_)
    refine zw_zg32 71 (by decide) (by grind) ?_
    refine zw_if (fun c2 => ?_) (fun c2 => ?_)
    · have hq : s_8 = e := by grind
      rw [hq]
      exact h1 _ ⟨he5, by dsimp only; grind, by dsimp only; grind⟩ (by dsimp only; grind) (by dsimp only; grind)
    · have hq : ¬ s_8 = e := by intro hq; rw [hq] at c2; exact c2 he3
      exact h8 _ (by grind) (by grind) (by grind)
  refine zw_zg32 71 (by decide) (by grind) ?_
  refine zw_zj (fun _ => True) (fun s_5 _ => ?_) (fun j_5 hj5 => ?_)
  · refine zw_zg32 71 (by decide) (by grind) ?_
    refine zw_zj (fun _ => True) (fun s_7 _ => J) (fun j_7 hj7 => ?_)
    refine zw_if (fun c3 => ?_) (fun c3 => ?_)
    · refine zw_if (fun c4 => ?_) (fun c4 => ?_)
      · refine zw_some ?_
        grind
      exact hj7 _ trivial
    exact hj7 _ trivial
  refine zw_if (fun c3 => ?_) (fun c3 => ?_)
  · exact hj5 _ trivial
  refine zw_if (fun c4 => ?_) (fun c4 => ?_)
  · exact hj5 _ trivial
  refine zw_zg32 1200 (by decide) (by grind) ?_
  refine zw_if (fun c5 => ?_) (fun c5 => ?_)
  · have hq : ¬ s_1.1 + s_3 = e := by intro hq; rw [hq] at c3; exact c3 he3
    exact h3 _ (by grind) (by grind) (by grind)
  exact hj5 _ trivial
set_option maxHeartbeats 1000000 in
theorem sf_X12_word (v0_5 : Int32) (v0_6 : Int32) (v0_7 : Int32) (v0_8 : Int32) (v0_9 : Int32) (f1 : Nat → Int32) (h_v0_5 : 0 ≤ v0_5 ∧ v0_5 ≤ 1200) (h_v0_6 : 0 ≤ v0_6 ∧ v0_6 ≤ 1200) (h_v0_7 : 0 ≤ v0_7 ∧ v0_7 ≤ 1200) (h_v0_8 : 0 ≤ v0_8 ∧ v0_8 ≤ 4) (h_f1 : (∀ i : Nat, 0 ≤ f1 i ∧ f1 i ≤ 255)) : zw (fn_X12_word v0_5 v0_6 v0_7 v0_8 v0_9 f1) (fun r => 0 ≤ r.1 ∧ r.1 ≤ 1200 ∧ 0 ≤ r.2.1 ∧ r.2.1 ≤ 1200 ∧ 0 ≤ r.2.2.1 ∧ r.2.2.1 ≤ 4 ∧ v0_6 ≤ r.1 ∧ v0_8 ≤ r.2.2.1) := by
  unfold fn_X12_word
  refine zw_zb0 (sf_X12_goesWell v0_8 (by grind [zu_at, zu_atL])) (fun o_1 ho_1 => ?_)
  refine zw_if (fun c1 => ?_) (fun c1 => ?_)
  · refine zw_some ?_
    first | trivial | (try dsimp only); grind [zu_at, zu_atL]
  refine zw_zb0 (sf_X12_here v0_5 v0_6 f1 (by grind [zu_at, zu_atL]) (by grind [zu_at, zu_atL]) (by grind [zu_at, zu_atL])) (fun o_6 ho_6 => ?_)
  refine zw_zb0 (sf_X12_isSmall o_6.2 v0_5 f1 (by grind [zu_at, zu_atL]) (by grind [zu_at, zu_atL])) (fun o_10 ho_10 => ?_)
  refine zw_if (fun c2 => ?_) (fun c2 => ?_)
  · refine zw_zb0 (sf_X12_faults 1 o_6.2 v0_8 v0_9 (by grind [zu_at, zu_atL]) (by grind [zu_at, zu_atL])) (fun o_15 ho_15 => ?_)
    refine zw_some ?_
    first | trivial | (try dsimp only); grind [zu_at, zu_atL]
  refine zw_zb0 (sf_X12_isSmall (o_6.2 - 1) v0_5 f1 (by grind [zu_at, zu_atL]) (by grind [zu_at, zu_atL])) (fun o_19 ho_19 => ?_)
  refine zw_if (fun c3 => ?_) (fun c3 => ?_)
  · refine zw_zb0 (sf_X12_isDigit (o_6.2 - 1) v0_5 f1 (by grind [zu_at, zu_atL]) (by grind [zu_at, zu_atL])) (fun o_28 ho_28 => ?_)
    refine zw_if (fun c4 => ?_) (fun c4 => ?_)
    · refine zw_zl32 (fun s_33 => o_6.2 ≤ s_33 ∧ s_33 ≤ v0_5) (fun s_33 => 1200 - s_33) (by (try dsimp only); grind [zu_at, zu_atL]) (by (try dsimp only); grind [zu_at, zu_atL]) (fun s_33 back_33 Hback_33 hback_33 => ?_)
      refine zw_zb0 (sf_X12_isSmall s_33 v0_5 f1 (by grind [zu_at, zu_atL]) (by grind [zu_at, zu_atL])) (fun o_34 ho_34 => ?_)
      refine zw_if (fun c5 => ?_) (fun c5 => ?_)
      · refine zw_some ?_
        first | trivial | (try dsimp only); grind [zu_at, zu_atL]
      exact hback_33 _ (by grind [zu_at, zu_atL]) (by grind [zu_at, zu_atL]) (by grind [zu_at, zu_atL])
    refine zw_zb0 (sf_X12_faults 1 o_6.2 v0_8 v0_9 (by grind [zu_at, zu_atL]) (by grind [zu_at, zu_atL])) (fun o_39 ho_39 => ?_)
    refine zw_some ?_
    first | trivial | (try dsimp only); grind [zu_at, zu_atL]
  refine zw_zb0 (sf_X12_faults 1 o_6.2 v0_8 v0_9 (by grind [zu_at, zu_atL]) (by grind [zu_at, zu_atL])) (fun o_24 ho_24 => ?_)
  refine zw_some ?_
  first | trivial | (try dsimp only); grind [zu_at, zu_atL]
set_option maxHeartbeats 1000000 in
theorem sf_X12_must (p1 : Int32) (v0_5 : Int32) (v0_6 : Int32) (v0_7 : Int32) (v0_8 : Int32) (v0_9 : Int32) (f1 : Nat → Int32) (f2 : Nat → Int32) (h_v0_5 : 0 ≤ v0_5 ∧ v0_5 ≤ 1200) (h_v0_6 : 0 ≤ v0_6 ∧ v0_6 ≤ 1200) (h_v0_7 : 0 ≤ v0_7 ∧ v0_7 ≤ 1200) (h_v0_8 : 0 ≤ v0_8 ∧ v0_8 ≤ 4) (h_f1 : (∀ i : Nat, 0 ≤ f1 i ∧ f1 i ≤ 255)) (hx_0 : (∀ k : Nat, k < 71 → f2 k = zTab k)) : zw (fn_X12_must p1 v0_5 v0_6 v0_7 v0_8 v0_9 f1 f2) (fun r => 0 ≤ r.1 ∧ r.1 ≤ 1200 ∧ 0 ≤ r.2.1 ∧ r.2.1 ≤ 1200 ∧ 0 ≤ r.2.2.1 ∧ r.2.2.1 ≤ 4 ∧ v0_6 ≤ r.1 ∧ v0_8 ≤ r.2.2.1) := by
  unfold fn_X12_must
  refine zw_zb0 (sf_X12_word v0_5 v0_6 v0_7 v0_8 v0_9 f1 (by grind [zu_at, zu_atL]) (by grind [zu_at, zu_atL]) (by grind [zu_at, zu_atL]) (by grind [zu_at, zu_atL]) (by grind [zu_at, zu_atL])) (fun o_1 ho_1 => ?_)
  refine zw_zb0 (sf_X12_goesWell o_1.2.2.1 (by grind [zu_at, zu_atL])) (fun o_5 ho_5 => ?_)
  refine zw_if (fun c1 => ?_) (fun c1 => ?_)
  · refine zw_some ?_
    first | trivial | (try dsimp only); grind [zu_at, zu_atL]
  refine zw_zb0 (sf_X12_own o_1.1 o_1.2.1 f2 f1 (by grind [zu_at, zu_atL]) (by grind [zu_at, zu_atL]) (by grind [zu_at, zu_atL]) (by grind [zu_at, zu_atL])) (fun o_10 ho_10 => ?_)
  refine zw_if (fun c2 => ?_) (fun c2 => ?_)
  · refine zw_some ?_
    first | trivial | (try dsimp only); grind [zu_at, zu_atL]
  refine zw_zb0 (sf_X12_faults 1 o_1.2.1 o_1.2.2.1 o_1.2.2.2 (by grind [zu_at, zu_atL]) (by grind [zu_at, zu_atL])) (fun o_15 ho_15 => ?_)
  refine zw_some ?_
  first | trivial | (try dsimp only); grind [zu_at, zu_atL]
set_option maxHeartbeats 1000000 in
theorem sf_X12_name (v0_5 : Int32) (v0_6 : Int32) (v0_7 : Int32) (v0_8 : Int32) (v0_9 : Int32) (f1 : Nat → Int32) (f2 : Nat → Int32) (h_v0_5 : 0 ≤ v0_5 ∧ v0_5 ≤ 1200) (h_v0_6 : 0 ≤ v0_6 ∧ v0_6 ≤ 1200) (h_v0_7 : 0 ≤ v0_7 ∧ v0_7 ≤ 1200) (h_v0_8 : 0 ≤ v0_8 ∧ v0_8 ≤ 4) (h_f1 : (∀ i : Nat, 0 ≤ f1 i ∧ f1 i ≤ 255)) (hx_0 : (∀ k : Nat, k < 71 → f2 k = zTab k)) : zw (fn_X12_name v0_5 v0_6 v0_7 v0_8 v0_9 f1 f2) (fun r => 0 ≤ r.2.1 ∧ r.2.1 ≤ 1200 ∧ 0 ≤ r.2.2.1 ∧ r.2.2.1 ≤ 1200 ∧ 0 ≤ r.2.2.2.1 ∧ r.2.2.2.1 ≤ 4 ∧ v0_6 ≤ r.2.1 ∧ v0_8 ≤ r.2.2.2.1 ∧ (¬ r.1 = 0 → r.2.2.1 ≤ 1199 ∧ r.2.2.2.1 ≤ 0 ∧ r.2.2.2.1 ≤ r.2.2.1 ∧ r.2.2.2.1 ≤ v0_5 ∧ r.2.2.2.1 ≤ v0_6 ∧ r.2.2.2.1 ≤ v0_7 ∧ r.2.2.2.1 ≤ v0_8 ∧ v0_6 ≤ 1199 ∧ v0_8 ≤ 0 ∧ v0_8 ≤ r.2.2.1 ∧ v0_8 ≤ v0_5 ∧ v0_8 ≤ v0_6 ∧ v0_8 ≤ v0_7)) := by
  unfold fn_X12_name
  refine zw_zb0 (sf_X12_word v0_5 v0_6 v0_7 v0_8 v0_9 f1 (by grind [zu_at, zu_atL]) (by grind [zu_at, zu_atL]) (by grind [zu_at, zu_atL]) (by grind [zu_at, zu_atL]) (by grind [zu_at, zu_atL])) (fun o_1 ho_1 => ?_)
  refine zw_zb0 (sf_X12_goesWell o_1.2.2.1 (by grind [zu_at, zu_atL])) (fun o_5 ho_5 => ?_)
  refine zw_zj (fun s_9 => 1 ≤ s_9.1 ∧ o_1.2.2.1 ≤ s_9.1 ∧ o_1.2.2.2 ≤ s_9.2 ∧ o_5 < s_9.1 ∧ s_9.1 ≤ 4 ∧ s_9.1 ≤ o_1.2.2.1 ∧ s_9.1 ≤ o_5 + 4 ∧ s_9.2 ≤ o_1.2.2.2 ∧ v0_8 ≤ s_9.1) (fun s_9 Hj_9 => ?_) (fun j_9 hj_9 => ?_)
  · refine zw_zl32 (fun s_10 => 0 ≤ s_10.1 ∧ o_1.1 ≤ s_10.2 + 1 ∧ o_1.2.2.1 ≤ s_10.1 + 4 ∧ o_5 ≤ s_10.1 ∧ s_10.1 ≤ 0 ∧ s_10.1 ≤ o_1.2.1 ∧ s_10.1 < o_1.2.2.1 ∧ s_10.1 ≤ o_5 ∧ s_10.1 < s_9.1 ∧ s_10.1 ≤ v0_5 ∧ s_10.1 ≤ v0_6 ∧ s_10.1 ≤ v0_7 ∧ s_10.1 ≤ v0_8 ∧ s_10.2 ≤ 1199 ∧ s_10.2 < o_1.1 ∧ s_9.1 ≤ s_10.1 + 4 ∧ v0_6 ≤ s_10.2 + 1) (fun s_10 => 0) (by (try dsimp only); grind [zu_at, zu_atL]) (by (try dsimp only); grind [zu_at, zu_atL]) (fun s_10 back_10 Hback_10 hback_10 => ?_)
    refine zw_if (fun c1 => ?_) (fun c1 => ?_)
    · refine zw_zb0 (sf_X12_goesWell s_9.1 (by grind [zu_at, zu_atL])) (fun o_12 ho_12 => ?_)
      refine zw_if (fun c2 => ?_) (fun c2 => ?_)
      · refine zw_some ?_
        first | trivial | (try dsimp only); grind [zu_at, zu_atL]
      refine zw_some ?_
      first | trivial | (try dsimp only); grind [zu_at, zu_atL]
    refine zw_zb0 (sf_X12_goesWell s_9.1 (by grind [zu_at, zu_atL])) (fun o_17 ho_17 => ?_)
    refine zw_if (fun c3 => ?_) (fun c3 => ?_)
    · refine zw_zb0 (sf_X12_goesWell s_9.1 (by grind [zu_at, zu_atL])) (fun o_22 ho_22 => ?_)
      refine zw_if (fun c4 => ?_) (fun c4 => ?_)
      · refine zw_some ?_
        first | trivial | (try dsimp only); grind [zu_at, zu_atL]
      refine zw_some ?_
      first | trivial | (try dsimp only); grind [zu_at, zu_atL]
    refine zw_zg32 1200 (by decide) (by grind [zu_at, zu_atL]) ?_
    exact hback_10 _ (by grind [zu_at, zu_atL]) (by grind [zu_at, zu_atL]) (by grind [zu_at, zu_atL])
  refine zw_if (fun c5 => ?_) (fun c5 => ?_)
  · exact hj_9 _ (by grind [zu_at, zu_atL])
  refine zw_zb0 (sf_X12_own o_1.1 o_1.2.1 f2 f1 (by grind [zu_at, zu_atL]) (by grind [zu_at, zu_atL]) (by grind [zu_at, zu_atL]) (by grind [zu_at, zu_atL])) (fun o_29 ho_29 => ?_)
  refine zw_zj (fun _ => True) (fun s_33 Hj_33 => ?_) (fun j_33 hj_33 => ?_)
  · refine zw_zb0 (sf_X12_faults 1 o_1.2.1 o_1.2.2.1 o_1.2.2.2 (by grind [zu_at, zu_atL]) (by grind [zu_at, zu_atL])) (fun o_34 ho_34 => ?_)
    exact hj_9 _ (by grind [zu_at, zu_atL])
  refine zw_if (fun c6 => ?_) (fun c6 => ?_)
  · refine zw_if (fun c7 => ?_) (fun c7 => ?_)
    · exact hj_9 _ (by grind [zu_at, zu_atL])
    exact hj_33 _ (by grind [zu_at, zu_atL])
  exact hj_33 _ (by grind [zu_at, zu_atL])
set_option maxHeartbeats 1000000 in
theorem sf_X12_digits (v0_5 : Int32) (v0_6 : Int32) (v0_7 : Int32) (v0_8 : Int32) (v0_9 : Int32) (f1 : Nat → Int32) (h_v0_5 : 0 ≤ v0_5 ∧ v0_5 ≤ 1200) (h_v0_6 : 0 ≤ v0_6 ∧ v0_6 ≤ 1200) (h_v0_7 : 0 ≤ v0_7 ∧ v0_7 ≤ 1200) (h_v0_8 : 0 ≤ v0_8 ∧ v0_8 ≤ 4) (h_f1 : (∀ i : Nat, 0 ≤ f1 i ∧ f1 i ≤ 255)) : zw (fn_X12_digits v0_5 v0_6 v0_7 v0_8 v0_9 f1) (fun r => 0 ≤ r.2.1 ∧ r.2.1 ≤ 1200 ∧ 0 ≤ r.2.2.1 ∧ r.2.2.1 ≤ 1200 ∧ 0 ≤ r.2.2.2.1 ∧ r.2.2.2.1 ≤ 4 ∧ v0_6 ≤ r.2.1 ∧ v0_8 ≤ r.2.2.2.1 ∧ (¬ r.1 = 0 → r.2.1 ≤ v0_5 ∧ r.2.2.1 ≤ r.2.1 ∧ r.2.2.1 < v0_5 ∧ r.2.2.2.1 ≤ 0 ∧ r.2.2.2.1 ≤ v0_6 ∧ r.2.2.2.1 ≤ v0_7 ∧ r.2.2.2.1 ≤ v0_8 ∧ r.2.2.2.2 ≤ v0_9 ∧ v0_6 ≤ r.2.2.1 ∧ v0_8 ≤ 0 ∧ v0_8 ≤ v0_6 ∧ v0_8 ≤ v0_7 ∧ v0_9 ≤ r.2.2.2.2)) := by
  unfold fn_X12_digits
  refine zw_zb0 (sf_X12_goesWell v0_8 (by grind [zu_at, zu_atL])) (fun o_1 ho_1 => ?_)
  refine zw_if (fun c1 => ?_) (fun c1 => ?_)
  · refine zw_some ?_
    first | trivial | (try dsimp only); grind [zu_at, zu_atL]
  refine zw_zb0 (sf_X12_here v0_5 v0_6 f1 (by grind [zu_at, zu_atL]) (by grind [zu_at, zu_atL]) (by grind [zu_at, zu_atL])) (fun o_6 ho_6 => ?_)
  refine zw_zb0 (sf_X12_isDigit o_6.2 v0_5 f1 (by grind [zu_at, zu_atL]) (by grind [zu_at, zu_atL])) (fun o_10 ho_10 => ?_)
  refine zw_if (fun c2 => ?_) (fun c2 => ?_)
  · refine zw_zb0 (sf_X12_faults 1 o_6.2 v0_8 v0_9 (by grind [zu_at, zu_atL]) (by grind [zu_at, zu_atL])) (fun o_15 ho_15 => ?_)
    refine zw_some ?_
    first | trivial | (try dsimp only); grind [zu_at, zu_atL]
  refine zw_zb0 (sf_X12_isSmall (o_6.2 - 1) v0_5 f1 (by grind [zu_at, zu_atL]) (by grind [zu_at, zu_atL])) (fun o_19 ho_19 => ?_)
  refine zw_if (fun c3 => ?_) (fun c3 => ?_)
  · refine zw_zb0 (sf_X12_isDigit (o_6.2 - 1) v0_5 f1 (by grind [zu_at, zu_atL]) (by grind [zu_at, zu_atL])) (fun o_28 ho_28 => ?_)
    refine zw_if (fun c4 => ?_) (fun c4 => ?_)
    · refine zw_zl32 (fun s_33 => o_6.2 ≤ s_33.2 ∧ s_33.2 ≤ v0_5) (fun s_33 => 1200 - s_33.2) (by (try dsimp only); grind [zu_at, zu_atL]) (by (try dsimp only); grind [zu_at, zu_atL]) (fun s_33 back_33 Hback_33 hback_33 => ?_)
      refine zw_zb0 (sf_X12_isDigit s_33.2 v0_5 f1 (by grind [zu_at, zu_atL]) (by grind [zu_at, zu_atL])) (fun o_34 ho_34 => ?_)
      refine zw_if (fun c5 => ?_) (fun c5 => ?_)
      · refine zw_if (fun c6 => ?_) (fun c6 => ?_)
        · refine zw_zb0 (sf_X12_goesWell v0_8 (by grind [zu_at, zu_atL])) (fun o_40 ho_40 => ?_)
          refine zw_if (fun c7 => ?_) (fun c7 => ?_)
          · refine zw_some ?_
            first | trivial | (try dsimp only); grind [zu_at, zu_atL]
          refine zw_some ?_
          first | trivial | (try dsimp only); grind [zu_at, zu_atL]
        refine zw_zb0 (sf_X12_faults 1 o_6.2 v0_8 v0_9 (by grind [zu_at, zu_atL]) (by grind [zu_at, zu_atL])) (fun o_45 ho_45 => ?_)
        refine zw_zb0 (sf_X12_goesWell o_45.1 (by grind [zu_at, zu_atL])) (fun o_49 ho_49 => ?_)
        refine zw_if (fun c8 => ?_) (fun c8 => ?_)
        · refine zw_some ?_
          first | trivial | (try dsimp only); grind [zu_at, zu_atL]
        refine zw_some ?_
        first | trivial | (try dsimp only); grind [zu_at, zu_atL]
      refine zw_if (fun c9 => ?_) (fun c9 => ?_)
      · exact hback_33 _ (by grind [zu_at, zu_atL]) (by grind [zu_at, zu_atL]) (by grind [zu_at, zu_atL])
      refine zw_zb0 (sf_X12_byteAt s_33.2 v0_5 f1 (by grind [zu_at, zu_atL]) (by grind [zu_at, zu_atL])) (fun o_55 ho_55 => ?_)
      exact hback_33 _ (by grind [zu_at, zu_atL]) (by grind [zu_at, zu_atL]) (by grind [zu_at, zu_atL])
    refine zw_zb0 (sf_X12_faults 1 o_6.2 v0_8 v0_9 (by grind [zu_at, zu_atL]) (by grind [zu_at, zu_atL])) (fun o_59 ho_59 => ?_)
    refine zw_some ?_
    first | trivial | (try dsimp only); grind [zu_at, zu_atL]
  refine zw_zb0 (sf_X12_faults 1 o_6.2 v0_8 v0_9 (by grind [zu_at, zu_atL]) (by grind [zu_at, zu_atL])) (fun o_24 ho_24 => ?_)
  refine zw_some ?_
  first | trivial | (try dsimp only); grind [zu_at, zu_atL]
set_option maxHeartbeats 1000000 in
theorem sf_X12_number (j1 : Int64) (j2 : Int64) (v0_5 : Int32) (v0_6 : Int32) (v0_7 : Int32) (v0_8 : Int32) (v0_9 : Int32) (f1 : Nat → Int32) (h_v0_5 : 0 ≤ v0_5 ∧ v0_5 ≤ 1200) (h_v0_6 : 0 ≤ v0_6 ∧ v0_6 ≤ 1200) (h_v0_7 : 0 ≤ v0_7 ∧ v0_7 ≤ 1200) (h_v0_8 : 0 ≤ v0_8 ∧ v0_8 ≤ 4) (h_f1 : (∀ i : Nat, 0 ≤ f1 i ∧ f1 i ≤ 255)) : zw (fn_X12_number j1 j2 v0_5 v0_6 v0_7 v0_8 v0_9 f1) (fun r => 0 ≤ r.2.1 ∧ r.2.1 ≤ 1200 ∧ 0 ≤ r.2.2.1 ∧ r.2.2.1 ≤ 1200 ∧ 0 ≤ r.2.2.2.1 ∧ r.2.2.2.1 ≤ 4 ∧ v0_6 ≤ r.2.1 ∧ v0_8 ≤ r.2.2.2.1 ∧ (¬ r.1 = 0 → j1 ≤ r.1 ∧ r.1 ≤ j2 ∧ r.2.1 ≤ v0_5 ∧ r.2.2.1 ≤ r.2.1 ∧ r.2.2.1 < v0_5 ∧ r.2.2.2.1 ≤ 0 ∧ r.2.2.2.1 ≤ v0_6 ∧ r.2.2.2.1 ≤ v0_7 ∧ r.2.2.2.1 ≤ v0_8 ∧ r.2.2.2.2 ≤ v0_9 ∧ v0_6 ≤ r.2.2.1 ∧ v0_8 ≤ 0 ∧ v0_8 ≤ v0_6 ∧ v0_8 ≤ v0_7 ∧ v0_9 ≤ r.2.2.2.2)) := by
  unfold fn_X12_number
  refine zw_zb0 (sf_X12_digits v0_5 v0_6 v0_7 v0_8 v0_9 f1 (by grind [zu_at, zu_atL]) (by grind [zu_at, zu_atL]) (by grind [zu_at, zu_atL]) (by grind [zu_at, zu_atL]) (by grind [zu_at, zu_atL])) (fun o_1 ho_1 => ?_)
  refine zw_zb0 (sf_X12_goesWell o_1.2.2.2.1 (by grind [zu_at, zu_atL])) (fun o_5 ho_5 => ?_)
  refine zw_if (fun c1 => ?_) (fun c1 => ?_)
  · refine zw_zb0 (sf_X12_goesWell o_1.2.2.2.1 (by grind [zu_at, zu_atL])) (fun o_10 ho_10 => ?_)
    refine zw_if (fun c2 => ?_) (fun c2 => ?_)
    · refine zw_some ?_
      first | trivial | (try dsimp only); grind [zu_at, zu_atL]
    refine zw_some ?_
    first | trivial | (try dsimp only); grind [zu_at, zu_atL]
  refine zw_zb0 (sf_X12_isIn o_1.1 j1 j2) (fun o_15 ho_15 => ?_)
  refine zw_if (fun c3 => ?_) (fun c3 => ?_)
  · refine zw_zb0 (sf_X12_faults 2 o_1.2.2.1 o_1.2.2.2.1 o_1.2.2.2.2 (by grind [zu_at, zu_atL]) (by grind [zu_at, zu_atL])) (fun o_25 ho_25 => ?_)
    refine zw_zb0 (sf_X12_goesWell o_25.1 (by grind [zu_at, zu_atL])) (fun o_29 ho_29 => ?_)
    refine zw_if (fun c4 => ?_) (fun c4 => ?_)
    · refine zw_some ?_
      first | trivial | (try dsimp only); grind [zu_at, zu_atL]
    refine zw_some ?_
    first | trivial | (try dsimp only); grind [zu_at, zu_atL]
  refine zw_zb0 (sf_X12_goesWell o_1.2.2.2.1 (by grind [zu_at, zu_atL])) (fun o_20 ho_20 => ?_)
  refine zw_if (fun c5 => ?_) (fun c5 => ?_)
  · refine zw_some ?_
    first | trivial | (try dsimp only); grind [zu_at, zu_atL]
  refine zw_some ?_
  first | trivial | (try dsimp only); grind [zu_at, zu_atL]
set_option maxHeartbeats 1000000 in
theorem sf_X12_signed (j1 : Int64) (j2 : Int64) (v0_5 : Int32) (v0_6 : Int32) (v0_7 : Int32) (v0_8 : Int32) (v0_9 : Int32) (f1 : Nat → Int32) (h_v0_5 : 0 ≤ v0_5 ∧ v0_5 ≤ 1200) (h_v0_6 : 0 ≤ v0_6 ∧ v0_6 ≤ 1200) (h_v0_7 : 0 ≤ v0_7 ∧ v0_7 ≤ 1200) (h_v0_8 : 0 ≤ v0_8 ∧ v0_8 ≤ 4) (h_f1 : (∀ i : Nat, 0 ≤ f1 i ∧ f1 i ≤ 255)) : zw (fn_X12_signed j1 j2 v0_5 v0_6 v0_7 v0_8 v0_9 f1) (fun r => 0 ≤ r.2.1 ∧ r.2.1 ≤ 1200 ∧ 0 ≤ r.2.2.1 ∧ r.2.2.1 ≤ 1200 ∧ 0 ≤ r.2.2.2.1 ∧ r.2.2.2.1 ≤ 4 ∧ v0_6 ≤ r.2.1 ∧ v0_8 ≤ r.2.2.2.1 ∧ (¬ r.1 = 0 → r.2.1 ≤ v0_5 ∧ r.2.2.1 ≤ r.2.1 ∧ r.2.2.1 < v0_5 ∧ r.2.2.2.1 ≤ 0 ∧ r.2.2.2.1 ≤ v0_6 ∧ r.2.2.2.1 ≤ v0_7 ∧ r.2.2.2.1 ≤ v0_8 ∧ v0_6 ≤ r.2.2.1 ∧ v0_8 ≤ 0 ∧ v0_8 ≤ v0_6 ∧ v0_8 ≤ v0_7)) := by
  unfold fn_X12_signed
  refine zw_zb0 (sf_X12_goesWell v0_8 (by grind [zu_at, zu_atL])) (fun o_1 ho_1 => ?_)
  refine zw_if (fun c1 => ?_) (fun c1 => ?_)
  · refine zw_some ?_
    first | trivial | (try dsimp only); grind [zu_at, zu_atL]
  refine zw_zb0 (sf_X12_here v0_5 v0_6 f1 (by grind [zu_at, zu_atL]) (by grind [zu_at, zu_atL]) (by grind [zu_at, zu_atL])) (fun o_6 ho_6 => ?_)
  refine zw_zj (fun s_10 => 0 ≤ s_10 ∧ o_1 ≤ s_10 + 1 ∧ s_10 ≤ 1 ∧ s_10 ≤ o_1 ∧ s_10 ≤ o_6.1 ∧ s_10 ≤ v0_8 + 1 ∧ v0_8 ≤ s_10) (fun s_10 Hj_10 => ?_) (fun j_10 hj_10 => ?_)
  · refine zw_zj (fun s_11 => o_6.2 ≤ s_11 ∧ s_10 ≤ s_11 ∧ s_11 ≤ o_6.2 + 1) (fun s_11 Hj_11 => ?_) (fun j_11 hj_11 => ?_)
    · refine zw_zb0 (sf_X12_digits v0_5 s_11 v0_7 v0_8 v0_9 f1 (by grind [zu_at, zu_atL]) (by grind [zu_at, zu_atL]) (by grind [zu_at, zu_atL]) (by grind [zu_at, zu_atL]) (by grind [zu_at, zu_atL])) (fun o_12 ho_12 => ?_)
      refine zw_zj (fun s_16 => True) (fun s_16 Hj_16 => ?_) (fun j_16 hj_16 => ?_)
      · refine zw_zb0 (sf_X12_goesWell o_12.2.2.2.1 (by grind [zu_at, zu_atL])) (fun o_17 ho_17 => ?_)
        refine zw_zj (fun s_21 => 0 ≤ s_21.1 ∧ o_1 ≤ s_21.1 + 1 ∧ o_12.2.2.2.1 ≤ s_21.1 ∧ o_17 ≤ s_21.1 + 1 ∧ s_21.1 ≤ 4 ∧ s_21.1 ≤ o_1 + 3 ∧ s_21.1 ≤ o_12.2.2.2.1 + 4 ∧ s_21.1 ≤ o_17 + 3 ∧ s_21.1 ≤ v0_8 + 4 ∧ v0_8 ≤ s_21.1) (fun s_21 Hj_21 => ?_) (fun j_21 hj_21 => ?_)
        · refine zw_zb0 (sf_X12_goesWell s_21.1 (by grind [zu_at, zu_atL])) (fun o_22 ho_22 => ?_)
          refine zw_if (fun c2 => ?_) (fun c2 => ?_)
          · refine zw_some ?_
            first | trivial | (try dsimp only); grind [zu_at, zu_atL]
          refine zw_some ?_
          first | trivial | (try dsimp only); grind [zu_at, zu_atL]
        refine zw_if (fun c3 => ?_) (fun c3 => ?_)
        · exact hj_21 _ (by grind [zu_at, zu_atL])
        refine zw_zb0 (sf_X12_isIn s_16 j1 j2) (fun o_28 ho_28 => ?_)
        refine zw_if (fun c4 => ?_) (fun c4 => ?_)
        · refine zw_zb0 (sf_X12_faults 2 o_6.2 o_12.2.2.2.1 o_12.2.2.2.2 (by grind [zu_at, zu_atL]) (by grind [zu_at, zu_atL])) (fun o_33 ho_33 => ?_)
          exact hj_21 _ (by grind [zu_at, zu_atL])
        exact hj_21 _ (by grind [zu_at, zu_atL])
      refine zw_if (fun c5 => ?_) (fun c5 => ?_)
      · exact hj_16 _ (by grind [zu_at, zu_atL])
      exact hj_16 _ (by grind [zu_at, zu_atL])
    refine zw_if (fun c6 => ?_) (fun c6 => ?_)
    · exact hj_11 _ (by grind [zu_at, zu_atL])
    exact hj_11 _ (by grind [zu_at, zu_atL])
  refine zw_if (fun c7 => ?_) (fun c7 => ?_)
  · exact hj_10 _ (by grind [zu_at, zu_atL])
  exact hj_10 _ (by grind [zu_at, zu_atL])
set_option maxHeartbeats 1000000 in
theorem sf_X12_f (p1 : Int32) (v0_11 : Int32) (h_p1 : 0 ≤ p1 ∧ p1 ≤ 4) (h_v0_11 : 0 ≤ v0_11 ∧ v0_11 ≤ 1) : zw (fn_X12_f p1 v0_11) (fun r => ((4 * v0_11) + p1) ≤ r ∧ (4 * v0_11) ≤ r ∧ p1 ≤ r ∧ r ≤ ((4 * v0_11) + p1) ∧ r ≤ (4 * v0_11) + 4 ∧ r ≤ p1 + 4) := by
  unfold fn_X12_f
  refine zw_some ?_
  first | trivial | (try dsimp only); grind [zu_at, zu_atL]
set_option maxHeartbeats 1000000 in
theorem sf_X12_n (p1 : Int32) (v0_11 : Int32) (h_p1 : 0 ≤ p1 ∧ p1 ≤ 14) (h_v0_11 : 0 ≤ v0_11 ∧ v0_11 ≤ 1) : zw (fn_X12_n p1 v0_11) (fun r => ((14 * v0_11) + p1) ≤ r ∧ (14 * v0_11) ≤ r ∧ p1 ≤ r ∧ r ≤ ((14 * v0_11) + p1) ∧ r ≤ (14 * v0_11) + 14 ∧ r ≤ p1 + 14) := by
  unfold fn_X12_n
  refine zw_some ?_
  first | trivial | (try dsimp only); grind [zu_at, zu_atL]
set_option maxHeartbeats 1000000 in
theorem sf_X12_formatNamed (p1 : Int32) (v0_11 : Int32) (f1 : Nat → Int32) (f2 : Nat → Int32) (h_v0_11 : 0 ≤ v0_11 ∧ v0_11 ≤ 1) (h_f1 : (∀ i : Nat, 0 ≤ f1 i ∧ f1 i ≤ 4)) : zw (fn_X12_formatNamed p1 v0_11 f1 f2) (fun r => (-1) ≤ r ∧ r < (f1 v0_11.toNatClampNeg) ∧ (r = (-1) → r < v0_11) ∧ (¬ r = (-1) → (4 * v0_11) ≤ 4 ∧ 0 ≤ (4 * v0_11) ∧ 0 ≤ r)) := by
  unfold fn_X12_formatNamed
  refine zw_zl32 (fun s_1 => 0 ≤ s_1 ∧ s_1 ≤ 4) (fun s_1 => 4 - s_1) (by (try dsimp only); grind [zu_at, zu_atL]) (by (try dsimp only); grind [zu_at, zu_atL]) (fun s_1 back_1 Hback_1 hback_1 => ?_)
  refine zw_zg32 2 (by decide) (by grind [zu_at, zu_atL]) ?_
  refine zw_if (fun c1 => ?_) (fun c1 => ?_)
  · refine zw_some ?_
    first | trivial | (try dsimp only); grind [zu_at, zu_atL]
  refine zw_zb0 (sf_X12_f s_1 v0_11 (by grind [zu_at, zu_atL]) (by grind [zu_at, zu_atL])) (fun o_4 ho_4 => ?_)
  refine zw_zg32 8 (by decide) (by grind [zu_at, zu_atL]) ?_
  refine zw_if (fun c2 => ?_) (fun c2 => ?_)
  · refine zw_some ?_
    first | trivial | (try dsimp only); grind [zu_at, zu_atL]
  exact hback_1 _ (by grind [zu_at, zu_atL]) (by grind [zu_at, zu_atL]) (by grind [zu_at, zu_atL])
set_option maxHeartbeats 1000000 in
theorem sf_X12_numberNamed (p1 : Int32) (v0_11 : Int32) (f1 : Nat → Int32) (f2 : Nat → Int32) (h_v0_11 : 0 ≤ v0_11 ∧ v0_11 ≤ 1) (h_f1 : (∀ i : Nat, 0 ≤ f1 i ∧ f1 i ≤ 14)) : zw (fn_X12_numberNamed p1 v0_11 f1 f2) (fun r => (-1) ≤ r ∧ r < (f1 v0_11.toNatClampNeg) ∧ (r = (-1) → r < v0_11) ∧ (¬ r = (-1) → (14 * v0_11) ≤ 14 ∧ 0 ≤ (14 * v0_11) ∧ 0 ≤ r)) := by
  unfold fn_X12_numberNamed
  refine zw_zl32 (fun s_1 => 0 ≤ s_1 ∧ s_1 ≤ 14) (fun s_1 => 14 - s_1) (by (try dsimp only); grind [zu_at, zu_atL]) (by (try dsimp only); grind [zu_at, zu_atL]) (fun s_1 back_1 Hback_1 hback_1 => ?_)
  refine zw_zg32 2 (by decide) (by grind [zu_at, zu_atL]) ?_
  refine zw_if (fun c1 => ?_) (fun c1 => ?_)
  · refine zw_some ?_
    first | trivial | (try dsimp only); grind [zu_at, zu_atL]
  refine zw_zb0 (sf_X12_n s_1 v0_11 (by grind [zu_at, zu_atL]) (by grind [zu_at, zu_atL])) (fun o_4 ho_4 => ?_)
  refine zw_zg32 28 (by decide) (by grind [zu_at, zu_atL]) ?_
  refine zw_if (fun c2 => ?_) (fun c2 => ?_)
  · refine zw_some ?_
    first | trivial | (try dsimp only); grind [zu_at, zu_atL]
  exact hback_1 _ (by grind [zu_at, zu_atL]) (by grind [zu_at, zu_atL]) (by grind [zu_at, zu_atL])
set_option maxHeartbeats 1000000 in
theorem sf_X12_newName (v0_5 : Int32) (v0_6 : Int32) (v0_7 : Int32) (v0_8 : Int32) (v0_9 : Int32) (v0_11 : Int32) (f1 : Nat → Int32) (f2 : Nat → Int32) (f3 : Nat → Int32) (f4 : Nat → Int32) (f5 : Nat → Int32) (f6 : Nat → Int32) (h_v0_5 : 0 ≤ v0_5 ∧ v0_5 ≤ 1200) (h_v0_6 : 0 ≤ v0_6 ∧ v0_6 ≤ 1200) (h_v0_7 : 0 ≤ v0_7 ∧ v0_7 ≤ 1200) (h_v0_8 : 0 ≤ v0_8 ∧ v0_8 ≤ 4) (h_v0_11 : 0 ≤ v0_11 ∧ v0_11 ≤ 1) (h_f1 : (∀ i : Nat, 0 ≤ f1 i ∧ f1 i ≤ 255)) (h_f3 : (∀ i : Nat, 0 ≤ f3 i ∧ f3 i ≤ 4)) (h_f5 : (∀ i : Nat, 0 ≤ f5 i ∧ f5 i ≤ 14)) (hx_0 : (∀ k : Nat, k < 71 → f2 k = zTab k)) : zw (fn_X12_newName v0_5 v0_6 v0_7 v0_8 v0_9 v0_11 f1 f2 f3 f4 f5 f6) (fun r => 0 ≤ r.2.1 ∧ r.2.1 ≤ 1200 ∧ 0 ≤ r.2.2.1 ∧ r.2.2.1 ≤ 1200 ∧ 0 ≤ r.2.2.2.1 ∧ r.2.2.2.1 ≤ 4 ∧ v0_6 ≤ r.2.1 ∧ v0_8 ≤ r.2.2.2.1 ∧ (¬ r.1 = 0 → (f3 v0_11.toNatClampNeg) ≤ 4 ∧ (f3 v0_11.toNatClampNeg) ≤ v0_8 + 4 ∧ 0 ≤ (f3 v0_11.toNatClampNeg) ∧ r.2.2.1 ≤ 1199 ∧ v0_6 ≤ 1199 ∧ v0_8 ≤ (f3 v0_11.toNatClampNeg) ∧ v0_8 ≤ 0 ∧ v0_8 ≤ r.2.2.1 ∧ v0_8 ≤ v0_11 ∧ v0_8 ≤ v0_5 ∧ v0_8 ≤ v0_6 ∧ v0_8 ≤ v0_7)) := by
  unfold fn_X12_newName
  refine zw_zb0 (sf_X12_name v0_5 v0_6 v0_7 v0_8 v0_9 f1 f2 (by grind [zu_at, zu_atL]) (by grind [zu_at, zu_atL]) (by grind [zu_at, zu_atL]) (by grind [zu_at, zu_atL]) (by grind [zu_at, zu_atL]) (by grind [zu_at, zu_atL])) (fun o_1 ho_1 => ?_)
  refine zw_zb0 (sf_X12_goesWell o_1.2.2.2.1 (by grind [zu_at, zu_atL])) (fun o_5 ho_5 => ?_)
  refine zw_if (fun c1 => ?_) (fun c1 => ?_)
  · refine zw_some ?_
    first | trivial | (try dsimp only); grind [zu_at, zu_atL]
  refine zw_zb0 (sf_X12_formatNamed o_1.1 v0_11 f3 f4 (by grind [zu_at, zu_atL]) (by grind [zu_at, zu_atL])) (fun o_10 ho_10 => ?_)
  refine zw_if (fun c2 => ?_) (fun c2 => ?_)
  · refine zw_zb0 (sf_X12_numberNamed o_1.1 v0_11 f5 f6 (by grind [zu_at, zu_atL]) (by grind [zu_at, zu_atL])) (fun o_19 ho_19 => ?_)
    refine zw_if (fun c3 => ?_) (fun c3 => ?_)
    · refine zw_some ?_
      first | trivial | (try dsimp only); grind [zu_at, zu_atL]
    refine zw_zb0 (sf_X12_faults 3 o_1.2.2.1 o_1.2.2.2.1 o_1.2.2.2.2 (by grind [zu_at, zu_atL]) (by grind [zu_at, zu_atL])) (fun o_24 ho_24 => ?_)
    refine zw_some ?_
    first | trivial | (try dsimp only); grind [zu_at, zu_atL]
  refine zw_zb0 (sf_X12_faults 3 o_1.2.2.1 o_1.2.2.2.1 o_1.2.2.2.2 (by grind [zu_at, zu_atL]) (by grind [zu_at, zu_atL])) (fun o_15 ho_15 => ?_)
  refine zw_some ?_
  first | trivial | (try dsimp only); grind [zu_at, zu_atL]
set_option maxHeartbeats 1000000 in
theorem sf_X12_toldNumber (v0_5 : Int32) (v0_6 : Int32) (v0_7 : Int32) (v0_8 : Int32) (v0_9 : Int32) (v0_11 : Int32) (f1 : Nat → Int32) (f2 : Nat → Int32) (f3 : Nat → Int32) (f4 : Nat → Int32) (h_v0_5 : 0 ≤ v0_5 ∧ v0_5 ≤ 1200) (h_v0_6 : 0 ≤ v0_6 ∧ v0_6 ≤ 1200) (h_v0_7 : 0 ≤ v0_7 ∧ v0_7 ≤ 1200) (h_v0_8 : 0 ≤ v0_8 ∧ v0_8 ≤ 4) (h_v0_11 : 0 ≤ v0_11 ∧ v0_11 ≤ 1) (h_f1 : (∀ i : Nat, 0 ≤ f1 i ∧ f1 i ≤ 255)) (h_f3 : (∀ i : Nat, 0 ≤ f3 i ∧ f3 i ≤ 14)) (hx_0 : (∀ k : Nat, k < 71 → f2 k = zTab k)) : zw (fn_X12_toldNumber v0_5 v0_6 v0_7 v0_8 v0_9 v0_11 f1 f2 f3 f4) (fun r => 0 ≤ r.2.1 ∧ r.2.1 ≤ 1200 ∧ 0 ≤ r.2.2.1 ∧ r.2.2.1 ≤ 1200 ∧ 0 ≤ r.2.2.2.1 ∧ r.2.2.2.1 ≤ 4 ∧ 0 ≤ r.1 ∧ r.1 ≤ 13 ∧ v0_6 ≤ r.2.1 ∧ v0_8 ≤ r.2.2.2.1 ∧ (¬ r.1 = 0 → (f3 v0_11.toNatClampNeg) ≤ 14 ∧ (f3 v0_11.toNatClampNeg) ≤ r.2.2.2.1 + 14 ∧ (f3 v0_11.toNatClampNeg) ≤ v0_8 + 14 ∧ r.1 < (f3 v0_11.toNatClampNeg) ∧ r.2.2.1 ≤ 1199 ∧ r.2.2.2.1 ≤ 0 ∧ r.2.2.2.1 ≤ r.1 ∧ r.2.2.2.1 ≤ r.2.2.1 ∧ r.2.2.2.1 ≤ v0_11 ∧ r.2.2.2.1 ≤ v0_5 ∧ r.2.2.2.1 ≤ v0_6 ∧ r.2.2.2.1 ≤ v0_7 ∧ r.2.2.2.1 ≤ v0_8 ∧ v0_6 ≤ 1199 ∧ v0_8 ≤ 0 ∧ v0_8 ≤ r.1 ∧ v0_8 ≤ r.2.2.1 ∧ v0_8 ≤ v0_11 ∧ v0_8 ≤ v0_5 ∧ v0_8 ≤ v0_6 ∧ v0_8 ≤ v0_7)) := by
  unfold fn_X12_toldNumber
  refine zw_zb0 (sf_X12_name v0_5 v0_6 v0_7 v0_8 v0_9 f1 f2 (by grind [zu_at, zu_atL]) (by grind [zu_at, zu_atL]) (by grind [zu_at, zu_atL]) (by grind [zu_at, zu_atL]) (by grind [zu_at, zu_atL]) (by grind [zu_at, zu_atL])) (fun o_1 ho_1 => ?_)
  refine zw_zb0 (sf_X12_goesWell o_1.2.2.2.1 (by grind [zu_at, zu_atL])) (fun o_5 ho_5 => ?_)
  refine zw_zj (fun s_9 => 0 ≤ s_9 ∧ o_1.1 ≤ s_9 ∧ o_1.2.2.2.1 ≤ s_9 + 4 ∧ o_5 ≤ s_9 ∧ s_9 ≤ 0 ∧ s_9 ≤ o_1.1 ∧ s_9 ≤ o_1.2.2.1 ∧ s_9 < o_1.2.2.2.1 ∧ s_9 ≤ o_5 ∧ s_9 ≤ v0_11 ∧ s_9 ≤ v0_5 ∧ s_9 ≤ v0_6 ∧ s_9 ≤ v0_7 ∧ s_9 ≤ v0_8 ∧ v0_11 ≤ s_9 + 1) (fun s_9 Hj_9 => ?_) (fun j_9 hj_9 => ?_)
  · refine zw_zb0 (sf_X12_goesWell o_1.2.2.2.1 (by grind [zu_at, zu_atL])) (fun o_10 ho_10 => ?_)
    refine zw_if (fun c1 => ?_) (fun c1 => ?_)
    · refine zw_zb0 (sf_X12_goesWell o_1.2.2.2.1 (by grind [zu_at, zu_atL])) (fun o_15 ho_15 => ?_)
      refine zw_if (fun c2 => ?_) (fun c2 => ?_)
      · refine zw_some ?_
        first | trivial | (try dsimp only); grind [zu_at, zu_atL]
      refine zw_some ?_
      first | trivial | (try dsimp only); grind [zu_at, zu_atL]
    refine zw_if (fun c3 => ?_) (fun c3 => ?_)
    · refine zw_zb0 (sf_X12_faults 3 o_1.2.2.1 o_1.2.2.2.1 o_1.2.2.2.2 (by grind [zu_at, zu_atL]) (by grind [zu_at, zu_atL])) (fun o_26 ho_26 => ?_)
      refine zw_zb0 (sf_X12_goesWell o_26.1 (by grind [zu_at, zu_atL])) (fun o_30 ho_30 => ?_)
      refine zw_if (fun c4 => ?_) (fun c4 => ?_)
      · refine zw_some ?_
        first | trivial | (try dsimp only); grind [zu_at, zu_atL]
      refine zw_some ?_
      first | trivial | (try dsimp only); grind [zu_at, zu_atL]
    refine zw_zb0 (sf_X12_goesWell o_1.2.2.2.1 (by grind [zu_at, zu_atL])) (fun o_21 ho_21 => ?_)
    refine zw_if (fun c5 => ?_) (fun c5 => ?_)
    · refine zw_some ?_
      first | trivial | (try dsimp only); grind [zu_at, zu_atL]
    refine zw_some ?_
    first | trivial | (try dsimp only); grind [zu_at, zu_atL]
  refine zw_if (fun c6 => ?_) (fun c6 => ?_)
  · exact hj_9 _ (by grind [zu_at, zu_atL])
  refine zw_zb0 (sf_X12_numberNamed o_1.1 v0_11 f3 f4 (by grind [zu_at, zu_atL]) (by grind [zu_at, zu_atL])) (fun o_36 ho_36 => ?_)
  exact hj_9 _ (by grind [zu_at, zu_atL])
set_option maxHeartbeats 1000000 in
theorem sf_X12_readsFormat (v0_5 : Int32) (v0_6 : Int32) (v0_7 : Int32) (v0_8 : Int32) (v0_9 : Int32) (v0_11 : Int32) (f1 : Nat → Int32) (f2 : Nat → Int32) (f3 : Nat → Int32) (f4 : Nat → Int32) (f5 : Nat → Int32) (f6 : Nat → Int32) (f7 : Nat → Int32) (f8 : Nat → Int32) (f9 : Nat → Int32) (h_v0_5 : 0 ≤ v0_5 ∧ v0_5 ≤ 1200) (h_v0_6 : 0 ≤ v0_6 ∧ v0_6 ≤ 1200) (h_v0_7 : 0 ≤ v0_7 ∧ v0_7 ≤ 1200) (h_v0_8 : 0 ≤ v0_8 ∧ v0_8 ≤ 4) (h_v0_11 : 0 ≤ v0_11 ∧ v0_11 ≤ 1) (h_f1 : (∀ i : Nat, 0 ≤ f1 i ∧ f1 i ≤ 255)) (h_f3 : (∀ i : Nat, 0 ≤ f3 i ∧ f3 i ≤ 4)) (h_f5 : (∀ i : Nat, 0 ≤ f5 i ∧ f5 i ≤ 14)) (hx_0 : (∀ k : Nat, k < 71 → f2 k = zTab k)) : zw (fn_X12_readsFormat v0_5 v0_6 v0_7 v0_8 v0_9 v0_11 f1 f2 f3 f4 f5 f6 f7 f8 f9) (fun r => 0 ≤ r.1 ∧ r.1 ≤ 1200 ∧ 0 ≤ r.2.1 ∧ r.2.1 ≤ 1200 ∧ 0 ≤ r.2.2.1 ∧ r.2.2.1 ≤ 4 ∧ (∀ i : Nat, 0 ≤ r.2.2.2.2.1 i ∧ r.2.2.2.2.1 i ≤ 4) ∧ v0_6 ≤ r.1 ∧ v0_8 ≤ r.2.2.1) := by
  unfold fn_X12_readsFormat
  refine zw_zb0 (sf_X12_newName v0_5 v0_6 v0_7 v0_8 v0_9 v0_11 f1 f2 f3 f4 f5 f6 (by grind [zu_at, zu_atL]) (by grind [zu_at, zu_atL]) (by grind [zu_at, zu_atL]) (by grind [zu_at, zu_atL]) (by grind [zu_at, zu_atL]) (by grind [zu_at, zu_atL]) (by grind [zu_at, zu_atL]) (by grind [zu_at, zu_atL]) (by grind [zu_at, zu_atL])) (fun o_1 ho_1 => ?_)
  refine zw_zb0 (sf_X12_must 1 v0_5 o_1.2.1 o_1.2.2.1 o_1.2.2.2.1 o_1.2.2.2.2 f1 f2 (by grind [zu_at, zu_atL]) (by grind [zu_at, zu_atL]) (by grind [zu_at, zu_atL]) (by grind [zu_at, zu_atL]) (by grind [zu_at, zu_atL]) (by grind [zu_at, zu_atL])) (fun o_5 ho_5 => ?_)
  refine zw_zb0 (sf_X12_number (1 : Int64) (1000000 : Int64) v0_5 o_5.1 o_5.2.1 o_5.2.2.1 o_5.2.2.2 f1 (by grind [zu_at, zu_atL]) (by grind [zu_at, zu_atL]) (by grind [zu_at, zu_atL]) (by grind [zu_at, zu_atL]) (by grind [zu_at, zu_atL])) (fun o_9 ho_9 => ?_)
  refine zw_zb0 (sf_X12_must 2 v0_5 o_9.2.1 o_9.2.2.1 o_9.2.2.2.1 o_9.2.2.2.2 f1 f2 (by grind [zu_at, zu_atL]) (by grind [zu_at, zu_atL]) (by grind [zu_at, zu_atL]) (by grind [zu_at, zu_atL]) (by grind [zu_at, zu_atL]) (by grind [zu_at, zu_atL])) (fun o_13 ho_13 => ?_)
  refine zw_zb0 (sf_X12_digits v0_5 o_13.1 o_13.2.1 o_13.2.2.1 o_13.2.2.2 f1 (by grind [zu_at, zu_atL]) (by grind [zu_at, zu_atL]) (by grind [zu_at, zu_atL]) (by grind [zu_at, zu_atL]) (by grind [zu_at, zu_atL])) (fun o_17 ho_17 => ?_)
  refine zw_zb0 (sf_X12_goesWell o_17.2.2.2.1 (by grind [zu_at, zu_atL])) (fun o_21 ho_21 => ?_)
  refine zw_zj (fun s_25 => o_13.2.2.1 ≤ s_25.1 ∧ o_17.2.2.2.1 ≤ s_25.1 ∧ o_17.2.2.2.2 ≤ s_25.2 ∧ s_25.1 ≤ 4 ∧ s_25.1 ≤ o_1.1 + 4 ∧ s_25.1 ≤ o_17.2.2.2.1 ∧ s_25.1 ≤ o_21 + 4 ∧ s_25.2 ≤ o_17.2.2.2.2) (fun s_25 Hj_25 => ?_) (fun j_25 hj_25 => ?_)
  · refine zw_zb0 (sf_X12_must 3 v0_5 o_17.2.1 o_17.2.2.1 s_25.1 s_25.2 f1 f2 (by grind [zu_at, zu_atL]) (by grind [zu_at, zu_atL]) (by grind [zu_at, zu_atL]) (by grind [zu_at, zu_atL]) (by grind [zu_at, zu_atL]) (by grind [zu_at, zu_atL])) (fun o_26 ho_26 => ?_)
    refine zw_zb0 (sf_X12_number (0 : Int64) (999 : Int64) v0_5 o_26.1 o_26.2.1 o_26.2.2.1 o_26.2.2.2 f1 (by grind [zu_at, zu_atL]) (by grind [zu_at, zu_atL]) (by grind [zu_at, zu_atL]) (by grind [zu_at, zu_atL]) (by grind [zu_at, zu_atL])) (fun o_30 ho_30 => ?_)
    refine zw_zb0 (sf_X12_goesWell o_30.2.2.2.1 (by grind [zu_at, zu_atL])) (fun o_34 ho_34 => ?_)
    refine zw_if (fun c1 => ?_) (fun c1 => ?_)
    · refine zw_some ?_
      first | trivial | (try dsimp only); grind [zu_at, zu_atL]
    refine zw_zg32 2 (by decide) (by grind [zu_at, zu_atL]) ?_
    refine zw_zb0 (sf_X12_f (f3 v0_11.toNatClampNeg) v0_11 (by grind [zu_at, zu_atL]) (by grind [zu_at, zu_atL])) (fun o_40 ho_40 => ?_)
    refine zw_zg32 8 (by decide) (by grind [zu_at, zu_atL]) ?_
    refine zw_some ?_
    first | trivial | (try dsimp only); grind [zu_at, zu_atL]
  refine zw_if (fun c2 => ?_) (fun c2 => ?_)
  · exact hj_25 _ (by grind [zu_at, zu_atL])
  refine zw_zb0 (sf_X12_isIn o_17.1 (1 : Int64) (1000000000 : Int64)) (fun o_46 ho_46 => ?_)
  refine zw_if (fun c3 => ?_) (fun c3 => ?_)
  · refine zw_zb0 (sf_X12_faults 2 o_17.2.2.1 o_17.2.2.2.1 o_17.2.2.2.2 (by grind [zu_at, zu_atL]) (by grind [zu_at, zu_atL])) (fun o_51 ho_51 => ?_)
    exact hj_25 _ (by grind [zu_at, zu_atL])
  exact hj_25 _ (by grind [zu_at, zu_atL])
set_option maxHeartbeats 1000000 in
theorem sf_X12_newNumber (p1 : Int32) (p2 : Int32) (v0_11 : Int32) (f1 : Nat → Int32) (f2 : Nat → Int32) (f3 : Nat → Int32) (f4 : Nat → Int32) (f5 : Nat → Int32) (f6 : Nat → Int32) (f7 : Nat → Int32) (f8 : Nat → Int32) (h_v0_11 : 0 ≤ v0_11 ∧ v0_11 ≤ 1) (h_f1 : (∀ i : Nat, 0 ≤ f1 i ∧ f1 i ≤ 14)) (h_f4 : (∀ i : Nat, (-1) ≤ f4 i ∧ f4 i ≤ 13)) (h_f5 : (∀ i : Nat, (-1) ≤ f5 i ∧ f5 i ≤ 13)) (h_f6 : (∀ i : Nat, (-1) ≤ f6 i ∧ f6 i ≤ 3)) (h_f8 : (∀ i : Nat, 0 ≤ f8 i ∧ f8 i ≤ 13)) (hr_0 : (f1 v0_11.toNatClampNeg) ≤ 13) : zw (fn_X12_newNumber p1 p2 v0_11 f1 f2 f3 f4 f5 f6 f7 f8) (fun r => (∀ i : Nat, (-1) ≤ r.2.2.1 i ∧ r.2.2.1 i ≤ 13) ∧ (∀ i : Nat, (-1) ≤ r.2.2.2.1 i ∧ r.2.2.2.1 i ≤ 13) ∧ (∀ i : Nat, (-1) ≤ r.2.2.2.2.1 i ∧ r.2.2.2.2.1 i ≤ 3) ∧ (∀ i : Nat, 0 ≤ r.2.2.2.2.2.2 i ∧ r.2.2.2.2.2.2 i ≤ 13)) := by
  unfold fn_X12_newNumber
  refine zw_zg32 2 (by decide) (by grind [zu_at, zu_atL]) ?_
  refine zw_zb0 (sf_X12_n (f1 v0_11.toNatClampNeg) v0_11 (by grind [zu_at, zu_atL]) (by grind [zu_at, zu_atL])) (fun o_2 ho_2 => ?_)
  refine zw_zg32 28 (by decide) (by grind [zu_at, zu_atL]) ?_
  refine zw_zb0 (sf_X12_n (f1 v0_11.toNatClampNeg) v0_11 (by grind [zu_at, zu_atL]) (by grind [zu_at, zu_atL])) (fun o_7 ho_7 => ?_)
  refine zw_zg32 28 (by decide) (by grind [zu_at, zu_atL]) ?_
  refine zw_zb0 (sf_X12_n (f1 v0_11.toNatClampNeg) v0_11 (by grind [zu_at, zu_atL]) (by grind [zu_at, zu_atL])) (fun o_12 ho_12 => ?_)
  refine zw_zg32 28 (by decide) (by grind [zu_at, zu_atL]) ?_
  refine zw_zb0 (sf_X12_n (f1 v0_11.toNatClampNeg) v0_11 (by grind [zu_at, zu_atL]) (by grind [zu_at, zu_atL])) (fun o_17 ho_17 => ?_)
  refine zw_zg32 28 (by decide) (by grind [zu_at, zu_atL]) ?_
  refine zw_zb0 (sf_X12_n (f1 v0_11.toNatClampNeg) v0_11 (by grind [zu_at, zu_atL]) (by grind [zu_at, zu_atL])) (fun o_22 ho_22 => ?_)
  refine zw_zg32 28 (by decide) (by grind [zu_at, zu_atL]) ?_
  refine zw_zb0 (sf_X12_n (f1 v0_11.toNatClampNeg) v0_11 (by grind [zu_at, zu_atL]) (by grind [zu_at, zu_atL])) (fun o_27 ho_27 => ?_)
  refine zw_zg32 28 (by decide) (by grind [zu_at, zu_atL]) ?_
  refine zw_zb0 (sf_X12_n (f1 v0_11.toNatClampNeg) v0_11 (by grind [zu_at, zu_atL]) (by grind [zu_at, zu_atL])) (fun o_32 ho_32 => ?_)
  refine zw_zg32 28 (by decide) (by grind [zu_at, zu_atL]) ?_
  refine zw_some ?_
  first | trivial | (try dsimp only); grind [zu_at, zu_atL]
set_option maxHeartbeats 1000000 in
theorem sf_X12_readsInput (v0_5 : Int32) (v0_6 : Int32) (v0_7 : Int32) (v0_8 : Int32) (v0_9 : Int32) (v0_11 : Int32) (f1 : Nat → Int32) (f2 : Nat → Int32) (f3 : Nat → Int32) (f4 : Nat → Int32) (f5 : Nat → Int32) (f6 : Nat → Int32) (f7 : Nat → Int32) (f8 : Nat → Int32) (f9 : Nat → Int32) (f10 : Nat → Int32) (f11 : Nat → Int32) (f12 : Nat → Int32) (f13 : Nat → Int64) (f14 : Nat → Int64) (h_v0_5 : 0 ≤ v0_5 ∧ v0_5 ≤ 1200) (h_v0_6 : 0 ≤ v0_6 ∧ v0_6 ≤ 1200) (h_v0_7 : 0 ≤ v0_7 ∧ v0_7 ≤ 1200) (h_v0_8 : 0 ≤ v0_8 ∧ v0_8 ≤ 4) (h_v0_11 : 0 ≤ v0_11 ∧ v0_11 ≤ 1) (h_f1 : (∀ i : Nat, 0 ≤ f1 i ∧ f1 i ≤ 255)) (h_f3 : (∀ i : Nat, 0 ≤ f3 i ∧ f3 i ≤ 4)) (h_f5 : (∀ i : Nat, 0 ≤ f5 i ∧ f5 i ≤ 14)) (h_f8 : (∀ i : Nat, (-1) ≤ f8 i ∧ f8 i ≤ 13)) (h_f9 : (∀ i : Nat, (-1) ≤ f9 i ∧ f9 i ≤ 13)) (h_f10 : (∀ i : Nat, (-1) ≤ f10 i ∧ f10 i ≤ 3)) (h_f12 : (∀ i : Nat, 0 ≤ f12 i ∧ f12 i ≤ 13)) (hr_0 : (f5 v0_11.toNatClampNeg) ≤ 13) (hx_0 : (∀ k : Nat, k < 71 → f2 k = zTab k)) : zw (fn_X12_readsInput v0_5 v0_6 v0_7 v0_8 v0_9 v0_11 f1 f2 f3 f4 f5 f6 f7 f8 f9 f10 f11 f12 f13 f14) (fun r => 0 ≤ r.1 ∧ r.1 ≤ 1200 ∧ 0 ≤ r.2.1 ∧ r.2.1 ≤ 1200 ∧ 0 ≤ r.2.2.1 ∧ r.2.2.1 ≤ 4 ∧ (∀ i : Nat, 0 ≤ r.2.2.2.2.1 i ∧ r.2.2.2.2.1 i ≤ 14) ∧ (∀ i : Nat, (-1) ≤ r.2.2.2.2.2.2.2.1 i ∧ r.2.2.2.2.2.2.2.1 i ≤ 13) ∧ (∀ i : Nat, (-1) ≤ r.2.2.2.2.2.2.2.2.1 i ∧ r.2.2.2.2.2.2.2.2.1 i ≤ 13) ∧ (∀ i : Nat, (-1) ≤ r.2.2.2.2.2.2.2.2.2.1 i ∧ r.2.2.2.2.2.2.2.2.2.1 i ≤ 3) ∧ (∀ i : Nat, 0 ≤ r.2.2.2.2.2.2.2.2.2.2.2.1 i ∧ r.2.2.2.2.2.2.2.2.2.2.2.1 i ≤ 13) ∧ v0_6 ≤ r.1 ∧ v0_8 ≤ r.2.2.1) := by
  unfold fn_X12_readsInput
  refine zw_zb0 (sf_X12_newName v0_5 v0_6 v0_7 v0_8 v0_9 v0_11 f1 f2 f3 f4 f5 f6 (by grind [zu_at, zu_atL]) (by grind [zu_at, zu_atL]) (by grind [zu_at, zu_atL]) (by grind [zu_at, zu_atL]) (by grind [zu_at, zu_atL]) (by grind [zu_at, zu_atL]) (by grind [zu_at, zu_atL]) (by grind [zu_at, zu_atL]) (by grind [zu_at, zu_atL])) (fun o_1 ho_1 => ?_)
  refine zw_zb0 (sf_X12_signed ((-10000000) : Int64) (10000000 : Int64) v0_5 o_1.2.1 o_1.2.2.1 o_1.2.2.2.1 o_1.2.2.2.2 f1 (by grind [zu_at, zu_atL]) (by grind [zu_at, zu_atL]) (by grind [zu_at, zu_atL]) (by grind [zu_at, zu_atL]) (by grind [zu_at, zu_atL])) (fun o_5 ho_5 => ?_)
  refine zw_zb0 (sf_X12_signed ((-10000000) : Int64) (10000000 : Int64) v0_5 o_5.2.1 o_5.2.2.1 o_5.2.2.2.1 o_5.2.2.2.2 f1 (by grind [zu_at, zu_atL]) (by grind [zu_at, zu_atL]) (by grind [zu_at, zu_atL]) (by grind [zu_at, zu_atL]) (by grind [zu_at, zu_atL])) (fun o_9 ho_9 => ?_)
  refine zw_zb0 (sf_X12_goesWell o_9.2.2.2.1 (by grind [zu_at, zu_atL])) (fun o_13 ho_13 => ?_)
  refine zw_zj (fun s_17 => o_5.2.2.2.1 ≤ s_17.1 ∧ o_9.2.2.2.1 ≤ s_17.1 ∧ o_9.2.2.2.2 ≤ s_17.2 ∧ s_17.1 ≤ 4 ∧ s_17.1 ≤ o_1.1 + 4 ∧ s_17.1 ≤ o_13 + 4 ∧ s_17.1 ≤ o_9.2.2.2.1 ∧ s_17.2 ≤ o_9.2.2.2.2) (fun s_17 Hj_17 => ?_) (fun j_17 hj_17 => ?_)
  · refine zw_zb0 (sf_X12_goesWell s_17.1 (by grind [zu_at, zu_atL])) (fun o_18 ho_18 => ?_)
    refine zw_if (fun c1 => ?_) (fun c1 => ?_)
    · refine zw_some ?_
      first | trivial | (try dsimp only); grind [zu_at, zu_atL]
    refine zw_zb0 (sf_X12_newNumber o_1.1 0 v0_11 f5 f6 f7 f8 f9 f10 f11 f12 (by grind [zu_at, zu_atL]) (by grind [zu_at, zu_atL]) (by grind [zu_at, zu_atL]) (by grind [zu_at, zu_atL]) (by grind [zu_at, zu_atL]) (by grind [zu_at, zu_atL]) (by grind [zu_at, zu_atL])) (fun o_23 ho_23 => ?_)
    refine zw_zg32 2 (by decide) (by grind [zu_at, zu_atL]) ?_
    refine zw_zb0 (sf_X12_n (f5 v0_11.toNatClampNeg) v0_11 (by grind [zu_at, zu_atL]) (by grind [zu_at, zu_atL])) (fun o_28 ho_28 => ?_)
    refine zw_zg32 28 (by decide) (by grind [zu_at, zu_atL]) ?_
    refine zw_zb0 (sf_X12_n (f5 v0_11.toNatClampNeg) v0_11 (by grind [zu_at, zu_atL]) (by grind [zu_at, zu_atL])) (fun o_33 ho_33 => ?_)
    refine zw_zg32 28 (by decide) (by grind [zu_at, zu_atL]) ?_
    refine zw_some ?_
    first | trivial | (try dsimp only); grind [zu_at, zu_atL]
  refine zw_if (fun c2 => ?_) (fun c2 => ?_)
  · exact hj_17 _ (by grind [zu_at, zu_atL])
  refine zw_if (fun c3 => ?_) (fun c3 => ?_)
  · exact hj_17 _ (by grind [zu_at, zu_atL])
  refine zw_zb0 (sf_X12_faults 2 o_9.2.2.1 o_9.2.2.2.1 o_9.2.2.2.2 (by grind [zu_at, zu_atL]) (by grind [zu_at, zu_atL])) (fun o_40 ho_40 => ?_)
  exact hj_17 _ (by grind [zu_at, zu_atL])
set_option maxHeartbeats 1000000 in
theorem sf_X12_readsWhat (v0_5 : Int32) (v0_6 : Int32) (v0_7 : Int32) (v0_8 : Int32) (v0_9 : Int32) (v0_11 : Int32) (f1 : Nat → Int32) (f2 : Nat → Int32) (f3 : Nat → Int32) (f4 : Nat → Int32) (h_v0_5 : 0 ≤ v0_5 ∧ v0_5 ≤ 1200) (h_v0_6 : 0 ≤ v0_6 ∧ v0_6 ≤ 1200) (h_v0_7 : 0 ≤ v0_7 ∧ v0_7 ≤ 1200) (h_v0_8 : 0 ≤ v0_8 ∧ v0_8 ≤ 4) (h_v0_11 : 0 ≤ v0_11 ∧ v0_11 ≤ 1) (h_f1 : (∀ i : Nat, 0 ≤ f1 i ∧ f1 i ≤ 255)) (h_f3 : (∀ i : Nat, 0 ≤ f3 i ∧ f3 i ≤ 14)) (hx_0 : (∀ k : Nat, k < 71 → f2 k = zTab k)) : zw (fn_X12_readsWhat v0_5 v0_6 v0_7 v0_8 v0_9 v0_11 f1 f2 f3 f4) (fun r => 0 ≤ r.2.2.1 ∧ r.2.2.1 ≤ 1200 ∧ 0 ≤ r.2.2.2.1 ∧ r.2.2.2.1 ≤ 1200 ∧ 0 ≤ r.2.2.2.2.1 ∧ r.2.2.2.2.1 ≤ 4 ∧ (-1) ≤ r.1 ∧ r.1 ≤ 13 ∧ v0_6 ≤ r.2.2.1 ∧ v0_8 ≤ r.1 + 4 ∧ v0_8 ≤ r.2.2.2.2.1 ∧ (r.1 = 0 → 0 ≤ r.2.1 ∧ r.2.1 ≤ 0) ∧ (¬ r.1 = 0 → r.2.2.2.2.1 ≤ v0_5 + 3 ∧ v0_6 ≤ 1199 ∧ v0_8 ≤ 0 ∧ v0_8 ≤ r.1 + 1 ∧ v0_8 ≤ r.2.2.2.1 ∧ v0_8 ≤ v0_11 ∧ v0_8 ≤ v0_5 ∧ v0_8 ≤ v0_6 ∧ v0_8 ≤ v0_7) ∧ (r.1 = (-1) → r.1 < r.2.2.2.1 ∧ r.1 < r.2.2.2.2.1 ∧ r.1 < v0_11 ∧ r.1 < v0_6 ∧ r.1 < v0_7 ∧ r.1 < v0_8 ∧ v0_6 < v0_5 ∧ v0_8 ≤ 0 ∧ v0_8 ≤ r.1 + 1 ∧ v0_8 ≤ r.2.2.2.1 ∧ v0_8 ≤ v0_11 ∧ v0_8 ≤ v0_6 ∧ v0_8 ≤ v0_7) ∧ (¬ r.1 = (-1) → 0 ≤ r.1 ∧ 0 ≤ r.2.1 ∧ r.2.1 ≤ 0)) := by
  unfold fn_X12_readsWhat
  refine zw_zb0 (sf_X12_goesWell v0_8 (by grind [zu_at, zu_atL])) (fun o_1 ho_1 => ?_)
  refine zw_if (fun c1 => ?_) (fun c1 => ?_)
  · refine zw_zb0 (sf_X12_toldNumber v0_5 v0_6 v0_7 v0_8 v0_9 v0_11 f1 f2 f3 f4 (by grind [zu_at, zu_atL]) (by grind [zu_at, zu_atL]) (by grind [zu_at, zu_atL]) (by grind [zu_at, zu_atL]) (by grind [zu_at, zu_atL]) (by grind [zu_at, zu_atL]) (by grind [zu_at, zu_atL]) (by grind [zu_at, zu_atL])) (fun o_6 ho_6 => ?_)
    refine zw_some ?_
    first | trivial | (try dsimp only); grind [zu_at, zu_atL]
  refine zw_zb0 (sf_X12_here v0_5 v0_6 f1 (by grind [zu_at, zu_atL]) (by grind [zu_at, zu_atL]) (by grind [zu_at, zu_atL])) (fun o_10 ho_10 => ?_)
  refine zw_if (fun c2 => ?_) (fun c2 => ?_)
  · refine zw_zb0 (sf_X12_signed ((-1000000) : Int64) (1000000 : Int64) v0_5 o_10.2 v0_7 v0_8 v0_9 f1 (by grind [zu_at, zu_atL]) (by grind [zu_at, zu_atL]) (by grind [zu_at, zu_atL]) (by grind [zu_at, zu_atL]) (by grind [zu_at, zu_atL])) (fun o_15 ho_15 => ?_)
    refine zw_some ?_
    first | trivial | (try dsimp only); grind [zu_at, zu_atL]
  refine zw_zb0 (sf_X12_isDigit o_10.2 v0_5 f1 (by grind [zu_at, zu_atL]) (by grind [zu_at, zu_atL])) (fun o_19 ho_19 => ?_)
  refine zw_if (fun c3 => ?_) (fun c3 => ?_)
  · refine zw_zb0 (sf_X12_toldNumber v0_5 o_10.2 v0_7 v0_8 v0_9 v0_11 f1 f2 f3 f4 (by grind [zu_at, zu_atL]) (by grind [zu_at, zu_atL]) (by grind [zu_at, zu_atL]) (by grind [zu_at, zu_atL]) (by grind [zu_at, zu_atL]) (by grind [zu_at, zu_atL]) (by grind [zu_at, zu_atL]) (by grind [zu_at, zu_atL])) (fun o_24 ho_24 => ?_)
    refine zw_some ?_
    first | trivial | (try dsimp only); grind [zu_at, zu_atL]
  refine zw_zb0 (sf_X12_signed ((-1000000) : Int64) (1000000 : Int64) v0_5 o_10.2 v0_7 v0_8 v0_9 f1 (by grind [zu_at, zu_atL]) (by grind [zu_at, zu_atL]) (by grind [zu_at, zu_atL]) (by grind [zu_at, zu_atL]) (by grind [zu_at, zu_atL])) (fun o_28 ho_28 => ?_)
  refine zw_some ?_
  first | trivial | (try dsimp only); grind [zu_at, zu_atL]
set_option maxHeartbeats 1000000 in
theorem sf_X12_readsOp (v0_5 : Int32) (v0_6 : Int32) (v0_7 : Int32) (v0_8 : Int32) (v0_9 : Int32) (f1 : Nat → Int32) (f2 : Nat → Int32) (h_v0_5 : 0 ≤ v0_5 ∧ v0_5 ≤ 1200) (h_v0_6 : 0 ≤ v0_6 ∧ v0_6 ≤ 1200) (h_v0_7 : 0 ≤ v0_7 ∧ v0_7 ≤ 1200) (h_v0_8 : 0 ≤ v0_8 ∧ v0_8 ≤ 4) (h_f1 : (∀ i : Nat, 0 ≤ f1 i ∧ f1 i ≤ 255)) (hx_0 : (∀ k : Nat, k < 71 → f2 k = zTab k)) : zw (fn_X12_readsOp v0_5 v0_6 v0_7 v0_8 v0_9 f1 f2) (fun r => 0 ≤ r.2.1 ∧ r.2.1 ≤ 1200 ∧ 0 ≤ r.2.2.1 ∧ r.2.2.1 ≤ 1200 ∧ 0 ≤ r.2.2.2.1 ∧ r.2.2.2.1 ≤ 4 ∧ 0 ≤ r.1 ∧ r.1 ≤ 5 ∧ v0_6 ≤ r.2.1 ∧ v0_8 ≤ r.2.2.2.1 ∧ (r.1 = 4 → r.1 ≤ r.2.2.1 + 4 ∧ r.1 ≤ r.2.2.2.1 + 4 ∧ r.1 ≤ v0_5 + 4 ∧ r.1 ≤ v0_6 + 4 ∧ r.1 ≤ v0_7 + 4 ∧ r.1 ≤ v0_8 + 4 ∧ r.2.2.1 ≤ 1199 ∧ r.2.2.2.1 ≤ r.1 ∧ v0_6 ≤ 1199 ∧ v0_8 ≤ 0 ∧ v0_8 + 4 ≤ r.1 ∧ v0_8 ≤ r.2.2.1 ∧ v0_8 ≤ v0_5 ∧ v0_8 ≤ v0_6 ∧ v0_8 ≤ v0_7) ∧ (r.1 = 5 → r.2.2.2.1 < r.1 ∧ v0_8 ≤ 0 ∧ v0_8 + 5 ≤ r.1 ∧ v0_8 ≤ r.2.2.1 ∧ v0_8 ≤ v0_5 ∧ v0_8 ≤ v0_6 ∧ v0_8 ≤ v0_7) ∧ (¬ r.1 = 5 → r.1 ≤ 4) ∧ (r.1 = 1 → r.1 ≤ r.2.2.1 + 1 ∧ r.1 ≤ r.2.2.2.1 + 1 ∧ r.1 ≤ v0_6 + 1 ∧ r.1 ≤ v0_7 + 1 ∧ r.1 ≤ v0_8 + 1 ∧ r.2.1 ≤ v0_5 ∧ r.2.2.1 ≤ v0_7 ∧ r.2.2.2.1 ≤ 0 ∧ r.2.2.2.1 < r.1 ∧ r.2.2.2.1 ≤ r.2.2.1 ∧ r.2.2.2.1 ≤ v0_6 ∧ r.2.2.2.1 ≤ v0_7 ∧ r.2.2.2.1 ≤ v0_8 ∧ r.2.2.2.2 ≤ v0_9 ∧ v0_6 < r.2.1 ∧ v0_7 ≤ r.2.2.1 ∧ v0_8 ≤ 0 ∧ v0_8 < r.1 ∧ v0_8 ≤ r.2.2.1 ∧ v0_8 ≤ v0_6 ∧ v0_8 ≤ v0_7 ∧ v0_9 ≤ r.2.2.2.2) ∧ (r.1 = 2 → r.1 ≤ r.2.2.1 + 2 ∧ r.1 ≤ r.2.2.2.1 + 2 ∧ r.1 ≤ v0_6 + 2 ∧ r.1 ≤ v0_7 + 2 ∧ r.1 ≤ v0_8 + 2 ∧ r.2.1 ≤ v0_5 ∧ r.2.2.1 ≤ v0_7 ∧ r.2.2.2.1 ≤ 0 ∧ r.2.2.2.1 + 2 ≤ r.1 ∧ r.2.2.2.1 ≤ r.2.2.1 ∧ r.2.2.2.1 ≤ v0_6 ∧ r.2.2.2.1 ≤ v0_7 ∧ r.2.2.2.1 ≤ v0_8 ∧ r.2.2.2.2 ≤ v0_9 ∧ v0_6 < r.2.1 ∧ v0_7 ≤ r.2.2.1 ∧ v0_8 ≤ 0 ∧ v0_8 + 2 ≤ r.1 ∧ v0_8 ≤ r.2.2.1 ∧ v0_8 ≤ v0_6 ∧ v0_8 ≤ v0_7 ∧ v0_9 ≤ r.2.2.2.2) ∧ (r.1 = 3 → r.1 ≤ r.2.2.1 + 3 ∧ r.1 ≤ r.2.2.2.1 + 3 ∧ r.1 ≤ v0_6 + 3 ∧ r.1 ≤ v0_7 + 3 ∧ r.1 ≤ v0_8 + 3 ∧ r.2.1 ≤ v0_5 ∧ r.2.2.1 ≤ v0_7 ∧ r.2.2.2.1 ≤ 0 ∧ r.2.2.2.1 + 3 ≤ r.1 ∧ r.2.2.2.1 ≤ r.2.2.1 ∧ r.2.2.2.1 ≤ v0_6 ∧ r.2.2.2.1 ≤ v0_7 ∧ r.2.2.2.1 ≤ v0_8 ∧ r.2.2.2.2 ≤ v0_9 ∧ v0_6 < r.2.1 ∧ v0_7 ≤ r.2.2.1 ∧ v0_8 ≤ 0 ∧ v0_8 + 3 ≤ r.1 ∧ v0_8 ≤ r.2.2.1 ∧ v0_8 ≤ v0_6 ∧ v0_8 ≤ v0_7 ∧ v0_9 ≤ r.2.2.2.2) ∧ (r.1 = 0 → 1 ≤ r.2.2.2.1 ∧ 1 ≤ v0_8 ∧ r.1 ≤ r.2.1 ∧ r.1 ≤ r.2.2.1 ∧ r.1 < r.2.2.2.1 ∧ r.1 ≤ v0_5 ∧ r.1 ≤ v0_6 ∧ r.1 ≤ v0_7 ∧ r.1 < v0_8 ∧ r.2.1 ≤ v0_6 ∧ r.2.2.1 ≤ v0_7 ∧ r.2.2.2.1 ≤ v0_8 ∧ r.2.2.2.2 ≤ v0_9 ∧ v0_7 ≤ r.2.2.1 ∧ v0_9 ≤ r.2.2.2.2) ∧ (¬ r.1 = 0 → 1 ≤ r.1 ∧ r.2.2.2.1 ≤ r.1 ∧ v0_8 ≤ 0 ∧ v0_8 < r.1 ∧ v0_8 ≤ r.2.2.1 ∧ v0_8 ≤ v0_5 ∧ v0_8 ≤ v0_6 ∧ v0_8 ≤ v0_7)) := by
  unfold fn_X12_readsOp
  refine zw_zb0 (sf_X12_goesWell v0_8 (by grind [zu_at, zu_atL])) (fun o_1 ho_1 => ?_)
  refine zw_if (fun c1 => ?_) (fun c1 => ?_)
  · refine zw_some ?_
    first | trivial | (try dsimp only); grind [zu_at, zu_atL]
  refine zw_zb0 (sf_X12_here v0_5 v0_6 f1 (by grind [zu_at, zu_atL]) (by grind [zu_at, zu_atL]) (by grind [zu_at, zu_atL])) (fun o_6 ho_6 => ?_)
  refine zw_zj (fun _ => 42 ≤ o_6.1 ∧ o_6.1 ≤ 45) (fun s_10 Hj_10 => ?_) (fun j_10 hj_10 => ?_)
  · refine zw_if (fun c2 => ?_) (fun c2 => ?_)
    · refine zw_some ?_
      first | trivial | (try dsimp only); grind [zu_at, zu_atL]
    refine zw_if (fun c3 => ?_) (fun c3 => ?_)
    · refine zw_some ?_
      first | trivial | (try dsimp only); grind [zu_at, zu_atL]
    refine zw_some ?_
    first | trivial | (try dsimp only); grind [zu_at, zu_atL]
  refine zw_if (fun c4 => ?_) (fun c4 => ?_)
  · exact hj_10 _ (by grind [zu_at, zu_atL])
  refine zw_if (fun c5 => ?_) (fun c5 => ?_)
  · exact hj_10 _ (by grind [zu_at, zu_atL])
  refine zw_if (fun c6 => ?_) (fun c6 => ?_)
  · exact hj_10 _ (by grind [zu_at, zu_atL])
  refine zw_zb0 (sf_X12_word v0_5 o_6.2 v0_7 v0_8 v0_9 f1 (by grind [zu_at, zu_atL]) (by grind [zu_at, zu_atL]) (by grind [zu_at, zu_atL]) (by grind [zu_at, zu_atL]) (by grind [zu_at, zu_atL])) (fun o_16 ho_16 => ?_)
  refine zw_zb0 (sf_X12_goesWell o_16.2.2.1 (by grind [zu_at, zu_atL])) (fun o_20 ho_20 => ?_)
  refine zw_zj (fun s_24 => (-1) ≤ s_24 ∧ o_1 ≤ s_24 + 2 ∧ o_16.2.2.1 ≤ s_24 + 5 ∧ o_20 ≤ s_24 + 1 ∧ s_24 ≤ (-1) ∧ s_24 + 2 ≤ o_1 ∧ s_24 < o_16.2.1 ∧ s_24 + 2 ≤ o_16.2.2.1 ∧ s_24 < o_20 ∧ s_24 < o_6.1 ∧ s_24 < v0_6 ∧ s_24 < v0_7 ∧ s_24 < v0_8 ∧ v0_8 ≤ s_24 + 1) (fun s_24 Hj_24 => ?_) (fun j_24 hj_24 => ?_)
  · refine zw_zb0 (sf_X12_goesWell o_16.2.2.1 (by grind [zu_at, zu_atL])) (fun o_25 ho_25 => ?_)
    refine zw_if (fun c7 => ?_) (fun c7 => ?_)
    · refine zw_if (fun c8 => ?_) (fun c8 => ?_)
      · refine zw_some ?_
        first | trivial | (try dsimp only); grind [zu_at, zu_atL]
      refine zw_some ?_
      first | trivial | (try dsimp only); grind [zu_at, zu_atL]
    refine zw_if (fun c9 => ?_) (fun c9 => ?_)
    · refine zw_if (fun c10 => ?_) (fun c10 => ?_)
      · refine zw_some ?_
        first | trivial | (try dsimp only); grind [zu_at, zu_atL]
      refine zw_some ?_
      first | trivial | (try dsimp only); grind [zu_at, zu_atL]
    refine zw_if (fun c11 => ?_) (fun c11 => ?_)
    · refine zw_if (fun c12 => ?_) (fun c12 => ?_)
      · refine zw_some ?_
        first | trivial | (try dsimp only); grind [zu_at, zu_atL]
      refine zw_some ?_
      first | trivial | (try dsimp only); grind [zu_at, zu_atL]
    refine zw_zb0 (sf_X12_faults 1 o_16.2.1 o_16.2.2.1 o_16.2.2.2 (by grind [zu_at, zu_atL]) (by grind [zu_at, zu_atL])) (fun o_35 ho_35 => ?_)
    refine zw_if (fun c13 => ?_) (fun c13 => ?_)
    · refine zw_some ?_
      first | trivial | (try dsimp only); grind [zu_at, zu_atL]
    refine zw_some ?_
    first | trivial | (try dsimp only); grind [zu_at, zu_atL]
  refine zw_if (fun c14 => ?_) (fun c14 => ?_)
  · exact hj_24 _ (by grind [zu_at, zu_atL])
  refine zw_zb0 (sf_X12_own o_16.1 o_16.2.1 f2 f1 (by grind [zu_at, zu_atL]) (by grind [zu_at, zu_atL]) (by grind [zu_at, zu_atL]) (by grind [zu_at, zu_atL])) (fun o_41 ho_41 => ?_)
  exact hj_24 _ (by grind [zu_at, zu_atL])
set_option maxHeartbeats 1000000 in
theorem sf_X12_readsLet (v0_5 : Int32) (v0_6 : Int32) (v0_7 : Int32) (v0_8 : Int32) (v0_9 : Int32) (v0_11 : Int32) (f1 : Nat → Int32) (f2 : Nat → Int32) (f3 : Nat → Int32) (f4 : Nat → Int32) (f5 : Nat → Int32) (f6 : Nat → Int32) (f7 : Nat → Int32) (f8 : Nat → Int32) (f9 : Nat → Int32) (f10 : Nat → Int32) (f11 : Nat → Int32) (f12 : Nat → Int32) (f13 : Nat → Int64) (f14 : Nat → Int64) (h_v0_5 : 0 ≤ v0_5 ∧ v0_5 ≤ 1200) (h_v0_6 : 0 ≤ v0_6 ∧ v0_6 ≤ 1200) (h_v0_7 : 0 ≤ v0_7 ∧ v0_7 ≤ 1200) (h_v0_8 : 0 ≤ v0_8 ∧ v0_8 ≤ 4) (h_v0_11 : 0 ≤ v0_11 ∧ v0_11 ≤ 1) (h_f1 : (∀ i : Nat, 0 ≤ f1 i ∧ f1 i ≤ 255)) (h_f3 : (∀ i : Nat, 0 ≤ f3 i ∧ f3 i ≤ 4)) (h_f5 : (∀ i : Nat, 0 ≤ f5 i ∧ f5 i ≤ 14)) (h_f8 : (∀ i : Nat, (-1) ≤ f8 i ∧ f8 i ≤ 13)) (h_f9 : (∀ i : Nat, (-1) ≤ f9 i ∧ f9 i ≤ 13)) (h_f10 : (∀ i : Nat, (-1) ≤ f10 i ∧ f10 i ≤ 3)) (h_f12 : (∀ i : Nat, 0 ≤ f12 i ∧ f12 i ≤ 13)) (hr_0 : (f5 v0_11.toNatClampNeg) ≤ 13) (hx_0 : (∀ k : Nat, k < 71 → f2 k = zTab k)) : zw (fn_X12_readsLet v0_5 v0_6 v0_7 v0_8 v0_9 v0_11 f1 f2 f3 f4 f5 f6 f7 f8 f9 f10 f11 f12 f13 f14) (fun r => 0 ≤ r.2.1 ∧ r.2.1 ≤ 1200 ∧ 0 ≤ r.2.2.1 ∧ r.2.2.1 ≤ 1200 ∧ 0 ≤ r.2.2.2.1 ∧ r.2.2.2.1 ≤ 4 ∧ (∀ i : Nat, 0 ≤ r.2.2.2.2.2.1 i ∧ r.2.2.2.2.2.1 i ≤ 14) ∧ (∀ i : Nat, (-1) ≤ r.2.2.2.2.2.2.2.2.1 i ∧ r.2.2.2.2.2.2.2.2.1 i ≤ 13) ∧ (∀ i : Nat, (-1) ≤ r.2.2.2.2.2.2.2.2.2.1 i ∧ r.2.2.2.2.2.2.2.2.2.1 i ≤ 13) ∧ (∀ i : Nat, (-1) ≤ r.2.2.2.2.2.2.2.2.2.2.1 i ∧ r.2.2.2.2.2.2.2.2.2.2.1 i ≤ 3) ∧ (∀ i : Nat, 0 ≤ r.2.2.2.2.2.2.2.2.2.2.2.2.1 i ∧ r.2.2.2.2.2.2.2.2.2.2.2.2.1 i ≤ 13) ∧ v0_6 ≤ r.2.1 ∧ v0_8 ≤ r.2.2.2.1 ∧ (¬ r.1 = 0 → (f3 v0_11.toNatClampNeg) ≤ 4 ∧ (f3 v0_11.toNatClampNeg) ≤ v0_8 + 4 ∧ 0 ≤ (f3 v0_11.toNatClampNeg) ∧ v0_6 < v0_5 ∧ v0_8 ≤ (f3 v0_11.toNatClampNeg) ∧ v0_8 ≤ 0 ∧ v0_8 ≤ r.2.2.1 ∧ v0_8 ≤ v0_11 ∧ v0_8 ≤ v0_6 ∧ v0_8 ≤ v0_7)) := by
  unfold fn_X12_readsLet
  refine zw_zb0 (sf_X12_newName v0_5 v0_6 v0_7 v0_8 v0_9 v0_11 f1 f2 f3 f4 f5 f6 (by grind [zu_at, zu_atL]) (by grind [zu_at, zu_atL]) (by grind [zu_at, zu_atL]) (by grind [zu_at, zu_atL]) (by grind [zu_at, zu_atL]) (by grind [zu_at, zu_atL]) (by grind [zu_at, zu_atL]) (by grind [zu_at, zu_atL]) (by grind [zu_at, zu_atL])) (fun o_1 ho_1 => ?_)
  refine zw_zb0 (sf_X12_mark 61 v0_5 o_1.2.1 o_1.2.2.2.1 o_1.2.2.2.2 f1 (by grind [zu_at, zu_atL]) (by grind [zu_at, zu_atL]) (by grind [zu_at, zu_atL]) (by grind [zu_at, zu_atL]) (by grind [zu_at, zu_atL])) (fun o_5 ho_5 => ?_)
  refine zw_zb0 (sf_X12_readsWhat v0_5 o_5.1 o_1.2.2.1 o_5.2.1 o_5.2.2 v0_11 f1 f2 f5 f6 (by grind [zu_at, zu_atL]) (by grind [zu_at, zu_atL]) (by grind [zu_at, zu_atL]) (by grind [zu_at, zu_atL]) (by grind [zu_at, zu_atL]) (by grind [zu_at, zu_atL]) (by grind [zu_at, zu_atL]) (by grind [zu_at, zu_atL])) (fun o_9 ho_9 => ?_)
  refine zw_zb0 (sf_X12_readsOp v0_5 o_9.2.2.1 o_9.2.2.2.1 o_9.2.2.2.2.1 o_9.2.2.2.2.2 f1 f2 (by grind [zu_at, zu_atL]) (by grind [zu_at, zu_atL]) (by grind [zu_at, zu_atL]) (by grind [zu_at, zu_atL]) (by grind [zu_at, zu_atL]) (by grind [zu_at, zu_atL])) (fun o_13 ho_13 => ?_)
  refine zw_zb0 (sf_X12_readsWhat v0_5 o_13.2.1 o_13.2.2.1 o_13.2.2.2.1 o_13.2.2.2.2 v0_11 f1 f2 f5 f6 (by grind [zu_at, zu_atL]) (by grind [zu_at, zu_atL]) (by grind [zu_at, zu_atL]) (by grind [zu_at, zu_atL]) (by grind [zu_at, zu_atL]) (by grind [zu_at, zu_atL]) (by grind [zu_at, zu_atL]) (by grind [zu_at, zu_atL])) (fun o_17 ho_17 => ?_)
  refine zw_zb0 (sf_X12_goesWell o_17.2.2.2.2.1 (by grind [zu_at, zu_atL])) (fun o_21 ho_21 => ?_)
  refine zw_if (fun c1 => ?_) (fun c1 => ?_)
  · refine zw_some ?_
    first | trivial | (try dsimp only); grind [zu_at, zu_atL]
  refine zw_zb0 (sf_X12_newNumber o_1.1 o_13.1 v0_11 f5 f6 f7 f8 f9 f10 f11 f12 (by grind [zu_at, zu_atL]) (by grind [zu_at, zu_atL]) (by grind [zu_at, zu_atL]) (by grind [zu_at, zu_atL]) (by grind [zu_at, zu_atL]) (by grind [zu_at, zu_atL]) (by grind [zu_at, zu_atL])) (fun o_26 ho_26 => ?_)
  refine zw_zg32 2 (by decide) (by grind [zu_at, zu_atL]) ?_
  refine zw_zb0 (sf_X12_n (f5 v0_11.toNatClampNeg) v0_11 (by grind [zu_at, zu_atL]) (by grind [zu_at, zu_atL])) (fun o_31 ho_31 => ?_)
  refine zw_zg32 28 (by decide) (by grind [zu_at, zu_atL]) ?_
  refine zw_some ?_
  first | trivial | (try dsimp only); grind [zu_at, zu_atL]
set_option maxHeartbeats 1000000 in
theorem sf_X12_readsFixed (v0_5 : Int32) (v0_6 : Int32) (v0_7 : Int32) (v0_8 : Int32) (v0_9 : Int32) (v0_11 : Int32) (f1 : Nat → Int32) (f2 : Nat → Int32) (f3 : Nat → Int32) (f4 : Nat → Int32) (f5 : Nat → Int32) (f6 : Nat → Int32) (f7 : Nat → Int32) (h_v0_5 : 0 ≤ v0_5 ∧ v0_5 ≤ 1200) (h_v0_6 : 0 ≤ v0_6 ∧ v0_6 ≤ 1200) (h_v0_7 : 0 ≤ v0_7 ∧ v0_7 ≤ 1200) (h_v0_8 : 0 ≤ v0_8 ∧ v0_8 ≤ 4) (h_v0_11 : 0 ≤ v0_11 ∧ v0_11 ≤ 1) (h_f1 : (∀ i : Nat, 0 ≤ f1 i ∧ f1 i ≤ 255)) (h_f3 : (∀ i : Nat, 0 ≤ f3 i ∧ f3 i ≤ 14)) (h_f5 : (∀ i : Nat, 0 ≤ f5 i ∧ f5 i ≤ 4)) (h_f7 : (∀ i : Nat, (-1) ≤ f7 i ∧ f7 i ≤ 3)) (hx_0 : (∀ k : Nat, k < 71 → f2 k = zTab k)) : zw (fn_X12_readsFixed v0_5 v0_6 v0_7 v0_8 v0_9 v0_11 f1 f2 f3 f4 f5 f6 f7) (fun r => 0 ≤ r.1 ∧ r.1 ≤ 1200 ∧ 0 ≤ r.2.1 ∧ r.2.1 ≤ 1200 ∧ 0 ≤ r.2.2.1 ∧ r.2.2.1 ≤ 4 ∧ (∀ i : Nat, (-1) ≤ r.2.2.2.2 i ∧ r.2.2.2.2 i ≤ 3) ∧ v0_6 ≤ r.1 ∧ v0_8 ≤ r.2.2.1) := by
  unfold fn_X12_readsFixed
  refine zw_zb0 (sf_X12_toldNumber v0_5 v0_6 v0_7 v0_8 v0_9 v0_11 f1 f2 f3 f4 (by grind [zu_at, zu_atL]) (by grind [zu_at, zu_atL]) (by grind [zu_at, zu_atL]) (by grind [zu_at, zu_atL]) (by grind [zu_at, zu_atL]) (by grind [zu_at, zu_atL]) (by grind [zu_at, zu_atL]) (by grind [zu_at, zu_atL])) (fun o_1 ho_1 => ?_)
  refine zw_zb0 (sf_X12_name v0_5 o_1.2.1 o_1.2.2.1 o_1.2.2.2.1 o_1.2.2.2.2 f1 f2 (by grind [zu_at, zu_atL]) (by grind [zu_at, zu_atL]) (by grind [zu_at, zu_atL]) (by grind [zu_at, zu_atL]) (by grind [zu_at, zu_atL]) (by grind [zu_at, zu_atL])) (fun o_5 ho_5 => ?_)
  refine zw_zb0 (sf_X12_goesWell o_5.2.2.2.1 (by grind [zu_at, zu_atL])) (fun o_9 ho_9 => ?_)
  refine zw_zj (fun s_13 => (f3 v0_11.toNatClampNeg) ≤ s_13 + 14 ∧ 0 ≤ s_13 ∧ o_1.2.2.2.1 ≤ s_13 ∧ o_5.1 ≤ s_13 ∧ o_5.2.2.2.1 ≤ s_13 + 4 ∧ o_9 ≤ s_13 ∧ s_13 ≤ 0 ∧ s_13 ≤ o_1.1 ∧ s_13 ≤ o_1.2.2.1 ∧ s_13 ≤ o_1.2.2.2.1 ∧ s_13 ≤ o_5.1 ∧ s_13 ≤ o_5.2.2.1 ∧ s_13 < o_5.2.2.2.1 ∧ s_13 ≤ o_9 ∧ s_13 ≤ v0_11 ∧ s_13 ≤ v0_5 ∧ s_13 ≤ v0_6 ∧ s_13 ≤ v0_7 ∧ s_13 ≤ v0_8 ∧ v0_11 ≤ s_13 + 1 ∧ v0_8 ≤ s_13) (fun s_13 Hj_13 => ?_) (fun j_13 hj_13 => ?_)
  · refine zw_zb0 (sf_X12_goesWell o_5.2.2.2.1 (by grind [zu_at, zu_atL])) (fun o_14 ho_14 => ?_)
    refine zw_zj (fun s_18 => 1 ≤ s_18.1 ∧ o_1.2.2.2.1 < s_18.1 ∧ o_14 < s_18.1 ∧ o_5.1 < s_18.1 ∧ o_5.2.2.2.1 ≤ s_18.1 ∧ o_5.2.2.2.2 ≤ s_18.2 ∧ o_9 < s_18.1 ∧ s_13 < s_18.1 ∧ s_18.1 ≤ 4 ∧ s_18.1 ≤ o_1.2.2.2.1 + 4 ∧ s_18.1 ≤ o_14 + 4 ∧ s_18.1 ≤ o_5.1 + 4 ∧ s_18.1 ≤ o_5.2.2.2.1 ∧ s_18.1 ≤ o_9 + 4 ∧ s_18.1 ≤ s_13 + 4 ∧ s_18.1 ≤ v0_8 + 4 ∧ s_18.2 ≤ o_5.2.2.2.2 ∧ v0_8 < s_18.1) (fun s_18 Hj_18 => ?_) (fun j_18 hj_18 => ?_)
    · refine zw_zb0 (sf_X12_goesWell s_18.1 (by grind [zu_at, zu_atL])) (fun o_19 ho_19 => ?_)
      refine zw_if (fun c1 => ?_) (fun c1 => ?_)
      · refine zw_some ?_
        first | trivial | (try dsimp only); grind [zu_at, zu_atL]
      refine zw_zb0 (sf_X12_n o_1.1 v0_11 (by grind [zu_at, zu_atL]) (by grind [zu_at, zu_atL])) (fun o_24 ho_24 => ?_)
      refine zw_zg32 28 (by decide) (by grind [zu_at, zu_atL]) ?_
      refine zw_some ?_
      first | trivial | (try dsimp only); grind [zu_at, zu_atL]
    refine zw_if (fun c2 => ?_) (fun c2 => ?_)
    · exact hj_18 _ (by grind [zu_at, zu_atL])
    refine zw_if (fun c3 => ?_) (fun c3 => ?_)
    · refine zw_zb0 (sf_X12_faults 3 o_5.2.2.1 o_5.2.2.2.1 o_5.2.2.2.2 (by grind [zu_at, zu_atL]) (by grind [zu_at, zu_atL])) (fun o_31 ho_31 => ?_)
      exact hj_18 _ (by grind [zu_at, zu_atL])
    exact hj_18 _ (by grind [zu_at, zu_atL])
  refine zw_if (fun c4 => ?_) (fun c4 => ?_)
  · exact hj_13 _ (by grind [zu_at, zu_atL])
  refine zw_zb0 (sf_X12_formatNamed o_5.1 v0_11 f5 f6 (by grind [zu_at, zu_atL]) (by grind [zu_at, zu_atL])) (fun o_36 ho_36 => ?_)
  exact hj_13 _ (by grind [zu_at, zu_atL])
set_option maxHeartbeats 1000000 in
theorem sf_X12_readsGroup (v0_5 : Int32) (v0_6 : Int32) (v0_7 : Int32) (v0_8 : Int32) (v0_9 : Int32) (v0_11 : Int32) (f1 : Nat → Int32) (f2 : Nat → Int32) (f3 : Nat → Int32) (f4 : Nat → Int32) (f5 : Nat → Int32) (h_v0_5 : 0 ≤ v0_5 ∧ v0_5 ≤ 1200) (h_v0_6 : 0 ≤ v0_6 ∧ v0_6 ≤ 1200) (h_v0_7 : 0 ≤ v0_7 ∧ v0_7 ≤ 1200) (h_v0_8 : 0 ≤ v0_8 ∧ v0_8 ≤ 4) (h_v0_11 : 0 ≤ v0_11 ∧ v0_11 ≤ 1) (h_f1 : (∀ i : Nat, 0 ≤ f1 i ∧ f1 i ≤ 255)) (h_f3 : (∀ i : Nat, 0 ≤ f3 i ∧ f3 i ≤ 14)) (h_f5 : (∀ i : Nat, 0 ≤ f5 i ∧ f5 i ≤ 13)) (hx_0 : (∀ k : Nat, k < 71 → f2 k = zTab k)) : zw (fn_X12_readsGroup v0_5 v0_6 v0_7 v0_8 v0_9 v0_11 f1 f2 f3 f4 f5) (fun r => 0 ≤ r.1 ∧ r.1 ≤ 1200 ∧ 0 ≤ r.2.1 ∧ r.2.1 ≤ 1200 ∧ 0 ≤ r.2.2.1 ∧ r.2.2.1 ≤ 4 ∧ (∀ i : Nat, 0 ≤ r.2.2.2.2 i ∧ r.2.2.2.2 i ≤ 13) ∧ v0_6 ≤ r.1 ∧ v0_8 ≤ r.2.2.1) := by
  unfold fn_X12_readsGroup
  refine zw_zb0 (sf_X12_toldNumber v0_5 v0_6 v0_7 v0_8 v0_9 v0_11 f1 f2 f3 f4 (by grind [zu_at, zu_atL]) (by grind [zu_at, zu_atL]) (by grind [zu_at, zu_atL]) (by grind [zu_at, zu_atL]) (by grind [zu_at, zu_atL]) (by grind [zu_at, zu_atL]) (by grind [zu_at, zu_atL]) (by grind [zu_at, zu_atL])) (fun o_1 ho_1 => ?_)
  refine zw_zb0 (sf_X12_toldNumber v0_5 o_1.2.1 o_1.2.2.1 o_1.2.2.2.1 o_1.2.2.2.2 v0_11 f1 f2 f3 f4 (by grind [zu_at, zu_atL]) (by grind [zu_at, zu_atL]) (by grind [zu_at, zu_atL]) (by grind [zu_at, zu_atL]) (by grind [zu_at, zu_atL]) (by grind [zu_at, zu_atL]) (by grind [zu_at, zu_atL]) (by grind [zu_at, zu_atL])) (fun o_5 ho_5 => ?_)
  refine zw_zb0 (sf_X12_goesWell o_5.2.2.2.1 (by grind [zu_at, zu_atL])) (fun o_9 ho_9 => ?_)
  refine zw_zj (fun s_13 => 0 ≤ s_13.1 ∧ o_1.2.2.2.1 ≤ s_13.1 ∧ o_5.2.2.2.1 ≤ s_13.1 ∧ o_9 ≤ s_13.1 + 1 ∧ s_13.1 ≤ 4 ∧ s_13.1 ≤ o_1.2.2.2.1 + 4 ∧ s_13.1 ≤ o_5.2.2.2.1 + 4 ∧ s_13.1 ≤ o_9 + 3 ∧ s_13.1 ≤ v0_8 + 4 ∧ v0_8 ≤ s_13.1) (fun s_13 Hj_13 => ?_) (fun j_13 hj_13 => ?_)
  · refine zw_zb0 (sf_X12_goesWell s_13.1 (by grind [zu_at, zu_atL])) (fun o_14 ho_14 => ?_)
    refine zw_if (fun c1 => ?_) (fun c1 => ?_)
    · refine zw_some ?_
      first | trivial | (try dsimp only); grind [zu_at, zu_atL]
    refine zw_zb0 (sf_X12_n o_1.1 v0_11 (by grind [zu_at, zu_atL]) (by grind [zu_at, zu_atL])) (fun o_19 ho_19 => ?_)
    refine zw_zg32 28 (by decide) (by grind [zu_at, zu_atL]) ?_
    refine zw_zb0 (sf_X12_n o_5.1 v0_11 (by grind [zu_at, zu_atL]) (by grind [zu_at, zu_atL])) (fun o_24 ho_24 => ?_)
    refine zw_zg32 28 (by decide) (by grind [zu_at, zu_atL]) ?_
    refine zw_zb0 (sf_X12_lesser ((f5 o_19.toNatClampNeg).toInt64) ((f5 o_24.toNatClampNeg).toInt64)) (fun o_29 ho_29 => ?_)
    refine zw_zl32 (fun s_33 => (∀ i : Nat, 0 ≤ s_33.2 i ∧ s_33.2 i ≤ 13) ∧ 0 ≤ s_33.1 ∧ o_1.2.2.2.1 ≤ s_33.1 ∧ o_14 ≤ s_33.1 + 1 ∧ o_5.2.2.2.1 ≤ s_33.1 ∧ o_9 ≤ s_33.1 + 1 ∧ s_13.1 ≤ s_33.1 ∧ s_33.1 ≤ (f3 v0_11.toNatClampNeg) ∧ v0_8 ≤ s_33.1) (fun s_33 => 14 - s_33.1) (by (try dsimp only); grind [zu_at, zu_atL]) (by (try dsimp only); grind [zu_at, zu_atL]) (fun s_33 back_33 Hback_33 hback_33 => ?_)
    refine zw_zg32 2 (by decide) (by grind [zu_at, zu_atL]) ?_
    refine zw_if (fun c2 => ?_) (fun c2 => ?_)
    · refine zw_some ?_
      first | trivial | (try dsimp only); grind [zu_at, zu_atL]
    refine zw_zb0 (sf_X12_n s_33.1 v0_11 (by grind [zu_at, zu_atL]) (by grind [zu_at, zu_atL])) (fun o_36 ho_36 => ?_)
    refine zw_zg32 28 (by decide) (by grind [zu_at, zu_atL]) ?_
    refine zw_zj (fun _ => (s_33.2 o_36.toNatClampNeg) ≤ 13 ∧ (s_33.2 o_36.toNatClampNeg) ≤ o_1.2.2.2.1 + 13 ∧ (s_33.2 o_36.toNatClampNeg) ≤ o_14 + 12 ∧ (s_33.2 o_36.toNatClampNeg) ≤ o_5.2.2.2.1 + 13 ∧ (s_33.2 o_36.toNatClampNeg) ≤ o_9 + 12 ∧ (s_33.2 o_36.toNatClampNeg) ≤ s_13.1 + 13 ∧ (s_33.2 o_36.toNatClampNeg) ≤ v0_8 + 13 ∧ 0 ≤ (s_33.2 o_36.toNatClampNeg) ∧ o_1.2.2.2.1 ≤ (s_33.2 o_36.toNatClampNeg) ∧ o_14 ≤ (s_33.2 o_36.toNatClampNeg) + 1 ∧ o_5.2.2.2.1 ≤ (s_33.2 o_36.toNatClampNeg) ∧ o_9 ≤ (s_33.2 o_36.toNatClampNeg) + 1 ∧ s_13.1 ≤ (s_33.2 o_36.toNatClampNeg) ∧ v0_8 ≤ (s_33.2 o_36.toNatClampNeg)) (fun s_41 Hj_41 => ?_) (fun j_41 hj_41 => ?_)
    · refine zw_zb0 (sf_X12_n s_33.1 v0_11 (by grind [zu_at, zu_atL]) (by grind [zu_at, zu_atL])) (fun o_42 ho_42 => ?_)
      refine zw_zg32 28 (by decide) (by grind [zu_at, zu_atL]) ?_
      exact hback_33 _ (by grind [zu_at, zu_atL]) (by grind [zu_at, zu_atL]) (by grind [zu_at, zu_atL])
    refine zw_if (fun c3 => ?_) (fun c3 => ?_)
    · exact hj_41 _ (by grind [zu_at, zu_atL])
    refine zw_zb0 (sf_X12_n s_33.1 v0_11 (by grind [zu_at, zu_atL]) (by grind [zu_at, zu_atL])) (fun o_48 ho_48 => ?_)
    refine zw_zg32 28 (by decide) (by grind [zu_at, zu_atL]) ?_
    refine zw_if (fun c4 => ?_) (fun c4 => ?_)
    · exact hj_41 _ (by grind [zu_at, zu_atL])
    exact hback_33 _ (by grind [zu_at, zu_atL]) (by grind [zu_at, zu_atL]) (by grind [zu_at, zu_atL])
  refine zw_if (fun c5 => ?_) (fun c5 => ?_)
  · exact hj_13 _ (by grind [zu_at, zu_atL])
  refine zw_if (fun c6 => ?_) (fun c6 => ?_)
  · refine zw_zb0 (sf_X12_faults 3 o_5.2.2.1 o_5.2.2.2.1 o_5.2.2.2.2 (by grind [zu_at, zu_atL]) (by grind [zu_at, zu_atL])) (fun o_56 ho_56 => ?_)
    exact hj_13 _ (by grind [zu_at, zu_atL])
  exact hj_13 _ (by grind [zu_at, zu_atL])
set_option maxHeartbeats 1000000 in
theorem sf_X12_readsAnswer (v0_5 : Int32) (v0_6 : Int32) (v0_7 : Int32) (v0_8 : Int32) (v0_9 : Int32) (v0_11 : Int32) (f1 : Nat → Int32) (f2 : Nat → Int32) (f3 : Nat → Int32) (f4 : Nat → Int32) (f5 : Nat → Int32) (h_v0_5 : 0 ≤ v0_5 ∧ v0_5 ≤ 1200) (h_v0_6 : 0 ≤ v0_6 ∧ v0_6 ≤ 1200) (h_v0_7 : 0 ≤ v0_7 ∧ v0_7 ≤ 1200) (h_v0_8 : 0 ≤ v0_8 ∧ v0_8 ≤ 4) (h_v0_11 : 0 ≤ v0_11 ∧ v0_11 ≤ 1) (h_f1 : (∀ i : Nat, 0 ≤ f1 i ∧ f1 i ≤ 255)) (h_f3 : (∀ i : Nat, 0 ≤ f3 i ∧ f3 i ≤ 14)) (hx_0 : (∀ k : Nat, k < 71 → f2 k = zTab k)) : zw (fn_X12_readsAnswer v0_5 v0_6 v0_7 v0_8 v0_9 v0_11 f1 f2 f3 f4 f5) (fun r => 0 ≤ r.1 ∧ r.1 ≤ 1200 ∧ 0 ≤ r.2.1 ∧ r.2.1 ≤ 1200 ∧ 0 ≤ r.2.2.1 ∧ r.2.2.1 ≤ 4 ∧ v0_6 ≤ r.1 ∧ v0_8 ≤ r.2.2.1) := by
  unfold fn_X12_readsAnswer
  refine zw_zb0 (sf_X12_toldNumber v0_5 v0_6 v0_7 v0_8 v0_9 v0_11 f1 f2 f3 f4 (by grind [zu_at, zu_atL]) (by grind [zu_at, zu_atL]) (by grind [zu_at, zu_atL]) (by grind [zu_at, zu_atL]) (by grind [zu_at, zu_atL]) (by grind [zu_at, zu_atL]) (by grind [zu_at, zu_atL]) (by grind [zu_at, zu_atL])) (fun o_1 ho_1 => ?_)
  refine zw_zb0 (sf_X12_must 12 v0_5 o_1.2.1 o_1.2.2.1 o_1.2.2.2.1 o_1.2.2.2.2 f1 f2 (by grind [zu_at, zu_atL]) (by grind [zu_at, zu_atL]) (by grind [zu_at, zu_atL]) (by grind [zu_at, zu_atL]) (by grind [zu_at, zu_atL]) (by grind [zu_at, zu_atL])) (fun o_5 ho_5 => ?_)
  refine zw_zb0 (sf_X12_number (0 : Int64) (1000000 : Int64) v0_5 o_5.1 o_5.2.1 o_5.2.2.1 o_5.2.2.2 f1 (by grind [zu_at, zu_atL]) (by grind [zu_at, zu_atL]) (by grind [zu_at, zu_atL]) (by grind [zu_at, zu_atL]) (by grind [zu_at, zu_atL])) (fun o_9 ho_9 => ?_)
  refine zw_zb0 (sf_X12_goesWell o_9.2.2.2.1 (by grind [zu_at, zu_atL])) (fun o_13 ho_13 => ?_)
  refine zw_if (fun c1 => ?_) (fun c1 => ?_)
  · refine zw_some ?_
    first | trivial | (try dsimp only); grind [zu_at, zu_atL]
  refine zw_zb0 (sf_X12_n o_1.1 v0_11 (by grind [zu_at, zu_atL]) (by grind [zu_at, zu_atL])) (fun o_18 ho_18 => ?_)
  refine zw_zg32 28 (by decide) (by grind [zu_at, zu_atL]) ?_
  refine zw_some ?_
  first | trivial | (try dsimp only); grind [zu_at, zu_atL]
set_option maxHeartbeats 1000000 in
theorem sf_X12_isBeginning (p0 : Int32) : zw (fn_X12_isBeginning p0) (fun r => 0 ≤ r ∧ r ≤ 1 ∧ (r = 1 → 0 ≤ p0 ∧ p0 ≤ 11 ∧ p0 ≤ r + 10 ∧ r ≤ p0 + 1) ∧ (¬ r = 1 → r ≤ 0) ∧ (¬ r = 0 → 0 ≤ p0 ∧ 1 ≤ r ∧ p0 ≤ 11 ∧ p0 ≤ r + 10 ∧ r ≤ p0 + 1)) := by
  unfold fn_X12_isBeginning
  refine zw_if (fun c1 => ?_) (fun c1 => ?_)
  · refine zw_some ?_
    first | trivial | (try dsimp only); grind [zu_at, zu_atL]
  refine zw_if (fun c2 => ?_) (fun c2 => ?_)
  · refine zw_some ?_
    first | trivial | (try dsimp only); grind [zu_at, zu_atL]
  refine zw_if (fun c3 => ?_) (fun c3 => ?_)
  · refine zw_some ?_
    first | trivial | (try dsimp only); grind [zu_at, zu_atL]
  refine zw_if (fun c4 => ?_) (fun c4 => ?_)
  · refine zw_some ?_
    first | trivial | (try dsimp only); grind [zu_at, zu_atL]
  refine zw_if (fun c5 => ?_) (fun c5 => ?_)
  · refine zw_some ?_
    first | trivial | (try dsimp only); grind [zu_at, zu_atL]
  refine zw_if (fun c6 => ?_) (fun c6 => ?_)
  · refine zw_some ?_
    first | trivial | (try dsimp only); grind [zu_at, zu_atL]
  refine zw_if (fun c7 => ?_) (fun c7 => ?_)
  · refine zw_some ?_
    first | trivial | (try dsimp only); grind [zu_at, zu_atL]
  refine zw_some ?_
  first | trivial | (try dsimp only); grind [zu_at, zu_atL]
