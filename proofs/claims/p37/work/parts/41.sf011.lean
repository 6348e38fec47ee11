set_option maxHeartbeats 4000000 in
set_option maxRecDepth 100000 in
theorem sf_X11_take (p1 : Int32) (v1_2 : Int32) (v1_3 : Int32) (v1_8 : Int32) (v1_10 : Int32) (v1_11 : Int32) (v1_12 : Int32) (v1_13 : Int32) (v1_14 : Int32) (v1_15 : Int32) (v2_0 : Int32) (v2_5 : Int32) (v3_0 : Int32) (v4_0 : Int32) (v4_1 : Int32) (v4_2 : Int32) (f5 : Nat → Int32) (f6 : Nat → Int32) (f7 : Nat → Int32) (f8 : Nat → Int32) (v9_1 : Int32) (v9_2 : Int32) (f10 : Nat → Int32) (f11 : Nat → Int32) (f12 : Nat → Int32) (f13 : Nat → Int64) (f14 : Nat → Int32) (f16 : Nat → Int64) (f17 : Nat → Int64) (f18 : Nat → Int32) (f19 : Nat → Int32) (f20 : Nat → Int32) (f21 : Nat → Int32) (f22 : Nat → Int32) (f23 : Nat → Int32) (f24 : Nat → Int32) (f25 : Nat → Int32) (v26_2 : Int32) (v26_3 : Int32) (v26_6 : Int32) (v26_7 : Int32) (v26_8 : Int32) (n27 : Nat) (f27 : Nat → Int32) (n28 : Nat) (f28 : Nat → Int32) (n29 : Nat) (f29 : Nat → Int32) (n30 : Nat) (f30 : Nat → Int32) (n31 : Nat) (f31 : Nat → Int32) (f32 : Nat → Int32) (v33_1 : Int32) (v33_2 : Int32) (f34 : Nat → Int64) (f35 : Nat → Int32) (h_v1_2 : 0 ≤ v1_2 ∧ v1_2 ≤ 1) (h_v1_3 : 0 ≤ v1_3 ∧ v1_3 ≤ 1) (h_v1_8 : 0 ≤ v1_8 ∧ v1_8 ≤ 28) (h_v1_14 : (-1) ≤ v1_14 ∧ v1_14 ≤ 13) (h_v1_15 : (-1) ≤ v1_15 ∧ v1_15 ≤ 3) (h_v2_0 : 0 ≤ v2_0 ∧ v2_0 ≤ 4) (h_v3_0 : 0 ≤ v3_0 ∧ v3_0 ≤ 14) (h_v4_0 : 0 ≤ v4_0 ∧ v4_0 ≤ 14) (h_v4_1 : 0 ≤ v4_1 ∧ v4_1 ≤ 14) (h_v4_2 : 0 ≤ v4_2 ∧ v4_2 ≤ 1) (h_f8 : (∀ i : Nat, 0 ≤ f8 i ∧ f8 i ≤ 1)) (h_f10 : (∀ i : Nat, 0 ≤ f10 i ∧ f10 i ≤ 13)) (h_f21 : (∀ i : Nat, 0 ≤ f21 i ∧ f21 i ≤ 13)) (h_f22 : (∀ i : Nat, 0 ≤ f22 i ∧ f22 i ≤ 14)) (h_f23 : (∀ i : Nat, 0 ≤ f23 i ∧ f23 i ≤ 14)) (h_v26_2 : 0 ≤ v26_2 ∧ v26_2 ≤ 1) (h_v26_3 : 0 ≤ v26_3 ∧ v26_3 ≤ 14) (h_v26_6 : 0 ≤ v26_6 ∧ v26_6 ≤ 1024) (h_n27 : n27 ≤ 1024) (hN_n27 : 0 ≤ Int32.ofNat n27 ∧ Int32.ofNat n27 ≤ 1024) (h_n28 : n28 ≤ 14336) (hN_n28 : 0 ≤ Int32.ofNat n28 ∧ Int32.ofNat n28 ≤ 14336) (h_n29 : n29 ≤ 1024) (hN_n29 : 0 ≤ Int32.ofNat n29 ∧ Int32.ofNat n29 ≤ 1024) (h_n30 : n30 ≤ 1024) (hN_n30 : 0 ≤ Int32.ofNat n30 ∧ Int32.ofNat n30 ≤ 1024) (h_n31 : n31 ≤ 1024) (hN_n31 : 0 ≤ Int32.ofNat n31 ∧ Int32.ofNat n31 ≤ 1024) (hr_0 : v26_6 ≤ (Int32.ofNat n27)) (hr_1 : (Int32.ofNat n27) ≤ (Int32.ofNat n30)) (hr_2 : (Int32.ofNat n27) ≤ (Int32.ofNat n29)) (hr_3 : (Int32.ofNat n27) ≤ (Int32.ofNat n31)) (hr_4 : (Int32.ofNat n30) ≤ (Int32.ofNat n27)) (hr_5 : (Int32.ofNat n29) ≤ (Int32.ofNat n27)) (hr_6 : (Int32.ofNat n31) ≤ (Int32.ofNat n27)) : zw (fn_X11_take p1 v1_2 v1_3 v1_8 v1_10 v1_11 v1_12 v1_13 v1_14 v1_15 v2_0 v2_5 v3_0 v4_0 v4_1 v4_2 f5 f6 f7 f8 v9_1 v9_2 f10 f11 f12 f13 f14 f16 f17 f18 f19 f20 f21 f22 f23 f24 f25 v26_2 v26_3 v26_6 v26_7 v26_8 n27 f27 n28 f28 n29 f29 n30 f30 n31 f31 f32 v33_1 v33_2 f34 f35) (fun r => (-1) ≤ r.2.2.2.2.2.1 ∧ r.2.2.2.2.2.1 ≤ 13 ∧ (-1) ≤ r.2.2.2.2.2.2.1 ∧ r.2.2.2.2.2.2.1 ≤ 3 ∧ 0 ≤ r.2.2.2.2.2.2.2.1 ∧ r.2.2.2.2.2.2.2.1 ≤ 1 ∧ 0 ≤ r.2.2.2.2.2.2.2.2.1 ∧ r.2.2.2.2.2.2.2.2.1 ≤ 1 ∧ 0 ≤ r.2.2.2.2.2.2.2.2.2.1 ∧ r.2.2.2.2.2.2.2.2.2.1 ≤ 28 ∧ (∀ i : Nat, 0 ≤ r.2.2.2.2.2.2.2.2.2.2.2.1 i ∧ r.2.2.2.2.2.2.2.2.2.2.2.1 i ≤ 1) ∧ (∀ i : Nat, 0 ≤ r.2.2.2.2.2.2.2.2.2.2.2.2.2.2.2.1 i ∧ r.2.2.2.2.2.2.2.2.2.2.2.2.2.2.2.1 i ≤ 13) ∧ (∀ i : Nat, 0 ≤ r.2.2.2.2.2.2.2.2.2.2.2.2.2.2.2.2.1 i ∧ r.2.2.2.2.2.2.2.2.2.2.2.2.2.2.2.2.1 i ≤ 14) ∧ (∀ i : Nat, 0 ≤ r.2.2.2.2.2.2.2.2.2.2.2.2.2.2.2.2.2.1 i ∧ r.2.2.2.2.2.2.2.2.2.2.2.2.2.2.2.2.2.1 i ≤ 14) ∧ 0 ≤ r.2.2.2.2.2.2.2.2.2.2.2.2.2.2.2.2.2.2.2.2.1 ∧ r.2.2.2.2.2.2.2.2.2.2.2.2.2.2.2.2.2.2.2.2.1 ≤ 1 ∧ 0 ≤ r.2.2.2.2.2.2.2.2.2.2.2.2.2.2.2.2.2.2.2.2.2.1 ∧ r.2.2.2.2.2.2.2.2.2.2.2.2.2.2.2.2.2.2.2.2.2.1 ≤ 14 ∧ 0 ≤ r.2.2.2.2.2.2.2.2.2.2.2.2.2.2.2.2.2.2.2.2.2.2.1 ∧ r.2.2.2.2.2.2.2.2.2.2.2.2.2.2.2.2.2.2.2.2.2.2.1 ≤ 1024 ∧ r.2.2.2.2.2.2.2.2.2.2.2.2.2.2.2.2.2.2.2.2.2.2.2.2.2.2.1 ≤ 1024 ∧ 0 ≤ Int32.ofNat r.2.2.2.2.2.2.2.2.2.2.2.2.2.2.2.2.2.2.2.2.2.2.2.2.2.2.1 ∧ Int32.ofNat r.2.2.2.2.2.2.2.2.2.2.2.2.2.2.2.2.2.2.2.2.2.2.2.2.2.2.1 ≤ 1024 ∧ r.2.2.2.2.2.2.2.2.2.2.2.2.2.2.2.2.2.2.2.2.2.2.2.2.2.2.2.2.1 ≤ 14336 ∧ 0 ≤ Int32.ofNat r.2.2.2.2.2.2.2.2.2.2.2.2.2.2.2.2.2.2.2.2.2.2.2.2.2.2.2.2.1 ∧ Int32.ofNat r.2.2.2.2.2.2.2.2.2.2.2.2.2.2.2.2.2.2.2.2.2.2.2.2.2.2.2.2.1 ≤ 14336 ∧ r.2.2.2.2.2.2.2.2.2.2.2.2.2.2.2.2.2.2.2.2.2.2.2.2.2.2.2.2.2.2.1 ≤ 1024 ∧ 0 ≤ Int32.ofNat r.2.2.2.2.2.2.2.2.2.2.2.2.2.2.2.2.2.2.2.2.2.2.2.2.2.2.2.2.2.2.1 ∧ Int32.ofNat r.2.2.2.2.2.2.2.2.2.2.2.2.2.2.2.2.2.2.2.2.2.2.2.2.2.2.2.2.2.2.1 ≤ 1024 ∧ r.2.2.2.2.2.2.2.2.2.2.2.2.2.2.2.2.2.2.2.2.2.2.2.2.2.2.2.2.2.2.2.2.1 ≤ 1024 ∧ 0 ≤ Int32.ofNat r.2.2.2.2.2.2.2.2.2.2.2.2.2.2.2.2.2.2.2.2.2.2.2.2.2.2.2.2.2.2.2.2.1 ∧ Int32.ofNat r.2.2.2.2.2.2.2.2.2.2.2.2.2.2.2.2.2.2.2.2.2.2.2.2.2.2.2.2.2.2.2.2.1 ≤ 1024 ∧ r.2.2.2.2.2.2.2.2.2.2.2.2.2.2.2.2.2.2.2.2.2.2.2.2.2.2.2.2.2.2.2.2.2.2.1 ≤ 1024 ∧ 0 ≤ Int32.ofNat r.2.2.2.2.2.2.2.2.2.2.2.2.2.2.2.2.2.2.2.2.2.2.2.2.2.2.2.2.2.2.2.2.2.2.1 ∧ Int32.ofNat r.2.2.2.2.2.2.2.2.2.2.2.2.2.2.2.2.2.2.2.2.2.2.2.2.2.2.2.2.2.2.2.2.2.2.1 ≤ 1024 ∧ r.2.2.2.2.2.2.2.2.2.2.2.2.2.2.2.2.2.2.2.2.2.2.1 ≤ (Int32.ofNat r.2.2.2.2.2.2.2.2.2.2.2.2.2.2.2.2.2.2.2.2.2.2.2.2.2.2.1) ∧ (Int32.ofNat r.2.2.2.2.2.2.2.2.2.2.2.2.2.2.2.2.2.2.2.2.2.2.2.2.2.2.1) ≤ (Int32.ofNat r.2.2.2.2.2.2.2.2.2.2.2.2.2.2.2.2.2.2.2.2.2.2.2.2.2.2.2.2.2.2.2.2.1) ∧ (Int32.ofNat r.2.2.2.2.2.2.2.2.2.2.2.2.2.2.2.2.2.2.2.2.2.2.2.2.2.2.1) ≤ (Int32.ofNat r.2.2.2.2.2.2.2.2.2.2.2.2.2.2.2.2.2.2.2.2.2.2.2.2.2.2.2.2.2.2.1) ∧ (Int32.ofNat r.2.2.2.2.2.2.2.2.2.2.2.2.2.2.2.2.2.2.2.2.2.2.2.2.2.2.1) ≤ (Int32.ofNat r.2.2.2.2.2.2.2.2.2.2.2.2.2.2.2.2.2.2.2.2.2.2.2.2.2.2.2.2.2.2.2.2.2.2.1) ∧ (Int32.ofNat r.2.2.2.2.2.2.2.2.2.2.2.2.2.2.2.2.2.2.2.2.2.2.2.2.2.2.2.2.2.2.2.2.1) ≤ (Int32.ofNat r.2.2.2.2.2.2.2.2.2.2.2.2.2.2.2.2.2.2.2.2.2.2.2.2.2.2.1) ∧ (Int32.ofNat r.2.2.2.2.2.2.2.2.2.2.2.2.2.2.2.2.2.2.2.2.2.2.2.2.2.2.2.2.2.2.1) ≤ (Int32.ofNat r.2.2.2.2.2.2.2.2.2.2.2.2.2.2.2.2.2.2.2.2.2.2.2.2.2.2.1) ∧ (Int32.ofNat r.2.2.2.2.2.2.2.2.2.2.2.2.2.2.2.2.2.2.2.2.2.2.2.2.2.2.2.2.2.2.2.2.2.2.1) ≤ (Int32.ofNat r.2.2.2.2.2.2.2.2.2.2.2.2.2.2.2.2.2.2.2.2.2.2.2.2.2.2.1) ∧ (Int32.ofNat n27) ≤ (Int32.ofNat r.2.2.2.2.2.2.2.2.2.2.2.2.2.2.2.2.2.2.2.2.2.2.2.2.2.2.1)) := by
  unfold fn_X11_take
  refine zw_if (fun c1 => ?_) (fun c1 => ?_)
  · refine zw_zb0 (sf_X11_takeCheapest v26_2 v26_3 v26_6 v26_7 v26_8 v2_0 v2_5 v3_0 v4_0 v4_1 v4_2 f19 n27 f27 n28 f28 n29 f29 n30 f30 n31 f31 f7 f32 v33_1 v33_2 f10 f5 f11 f12 f34 f14 f16 f17 f18 f20 f24 (by first | with_reducible assumption | exact ⟨by with_reducible assumption, by with_reducible assumption⟩ | first | lia | grind [zu_at, zu_atL, zvn]) (by first | with_reducible assumption | exact ⟨by with_reducible assumption, by with_reducible assumption⟩ | first | lia | grind [zu_at, zu_atL, zvn]) (by first | with_reducible assumption | exact ⟨by with_reducible assumption, by with_reducible assumption⟩ | first | lia | grind [zu_at, zu_atL, zvn]) (by first | with_reducible assumption | exact ⟨by with_reducible assumption, by with_reducible assumption⟩ | first | lia | grind [zu_at, zu_atL, zvn]) (by first | with_reducible assumption | exact ⟨by with_reducible assumption, by with_reducible assumption⟩ | first | lia | grind [zu_at, zu_atL, zvn]) (by first | with_reducible assumption | exact ⟨by with_reducible assumption, by with_reducible assumption⟩ | first | lia | grind [zu_at, zu_atL, zvn]) (by first | with_reducible assumption | exact ⟨by with_reducible assumption, by with_reducible assumption⟩ | first | lia | grind [zu_at, zu_atL, zvn]) (by first | with_reducible assumption | exact ⟨by with_reducible assumption, by with_reducible assumption⟩ | first | lia | grind [zu_at, zu_atL, zvn]) (by first | with_reducible assumption | exact ⟨by with_reducible assumption, by with_reducible assumption⟩ | first | lia | grind [zu_at, zu_atL, zvn]) (by first | with_reducible assumption | exact ⟨by with_reducible assumption, by with_reducible assumption⟩ | first | lia | grind [zu_at, zu_atL, zvn]) (by first | with_reducible assumption | exact ⟨by with_reducible assumption, by with_reducible assumption⟩ | first | lia | grind [zu_at, zu_atL, zvn]) (by first | with_reducible assumption | exact ⟨by with_reducible assumption, by with_reducible assumption⟩ | first | lia | grind [zu_at, zu_atL, zvn]) (by first | with_reducible assumption | exact ⟨by with_reducible assumption, by with_reducible assumption⟩ | first | lia | grind [zu_at, zu_atL, zvn]) (by first | with_reducible assumption | exact ⟨by with_reducible assumption, by with_reducible assumption⟩ | first | lia | grind [zu_at, zu_atL, zvn]) (by first | with_reducible assumption | exact ⟨by with_reducible assumption, by with_reducible assumption⟩ | first | lia | grind [zu_at, zu_atL, zvn]) (by first | with_reducible assumption | exact ⟨by with_reducible assumption, by with_reducible assumption⟩ | first | lia | grind [zu_at, zu_atL, zvn]) (by first | with_reducible assumption | exact ⟨by with_reducible assumption, by with_reducible assumption⟩ | first | lia | grind [zu_at, zu_atL, zvn]) (by first | with_reducible assumption | exact ⟨by with_reducible assumption, by with_reducible assumption⟩ | first | lia | grind [zu_at, zu_atL, zvn]) (by first | with_reducible assumption | exact ⟨by with_reducible assumption, by with_reducible assumption⟩ | first | lia | grind [zu_at, zu_atL, zvn]) (by first | with_reducible assumption | exact ⟨by with_reducible assumption, by with_reducible assumption⟩ | first | lia | grind [zu_at, zu_atL, zvn]) (by first | with_reducible assumption | exact ⟨by with_reducible assumption, by with_reducible assumption⟩ | first | lia | grind [zu_at, zu_atL, zvn]) (by first | with_reducible assumption | exact ⟨by with_reducible assumption, by with_reducible assumption⟩ | first | lia | grind [zu_at, zu_atL, zvn]) (by first | with_reducible assumption | exact ⟨by with_reducible assumption, by with_reducible assumption⟩ | first | lia | grind [zu_at, zu_atL, zvn]) (by first | with_reducible assumption | exact ⟨by with_reducible assumption, by with_reducible assumption⟩ | first | lia | grind [zu_at, zu_atL, zvn]) (by first | with_reducible assumption | exact ⟨by with_reducible assumption, by with_reducible assumption⟩ | first | lia | grind [zu_at, zu_atL, zvn]) (by first | with_reducible assumption | exact ⟨by with_reducible assumption, by with_reducible assumption⟩ | first | lia | grind [zu_at, zu_atL, zvn])) (fun o_28 ho_28 => ?_)
    obtain ⟨o_28_0, o_28_1, o_28_2, o_28_3, o_28_4, o_28_5, o_28_6, o_28_7, o_28_8, o_28_9, o_28_10, o_28_11, o_28_12, o_28_13, o_28_14, o_28_15, o_28_16, o_28_17, o_28_18, o_28_19, o_28_20⟩ := o_28
    try dsimp only at ho_28
    obtain ⟨ho_28_0, ho_28_1, ho_28_2, ho_28_3, ho_28_4, ho_28_5, ho_28_6, ho_28_7, ho_28_8, ho_28_9, ho_28_10, ho_28_11, ho_28_12, ho_28_13, ho_28_14, ho_28_15, ho_28_16, ho_28_17, ho_28_18, ho_28_19, ho_28_20, ho_28_21, ho_28_22, ho_28_23, ho_28_24, ho_28_25, ho_28_26, ho_28_27, ho_28_28, ho_28_29, ho_28_30, ho_28_31, ho_28_32, ho_28_33, ho_28_34, ho_28_35, ho_28_36, ho_28_37, ho_28_38, ho_28_39, ho_28_40, ho_28_41, ho_28_42⟩ := ho_28
    refine zw_if (fun c2 => ?_) (fun c2 => ?_)
    · refine zw_zb0 (sf_X11_refuse 2 f35) (fun o_33 ho_33 => ?_)
      obtain ⟨o_33_0, o_33_1⟩ := o_33
      try dsimp only at ho_33
      obtain ⟨ho_33_0, ho_33_1⟩ := ho_33
      refine zw_some ?_
      first | exact True.intro | ((try dsimp only); (repeat' apply And.intro) <;> first | with_reducible assumption | first | lia | grind [zu_at, zu_atL, zvn])
    refine zw_zb0 (sf_X9_priceOf v2_0 v2_5 v3_0 f12 f10 o_28_20 f20 (by first | with_reducible assumption | exact ⟨by with_reducible assumption, by with_reducible assumption⟩ | first | lia | grind [zu_at, zu_atL, zvn]) (by first | with_reducible assumption | exact ⟨by with_reducible assumption, by with_reducible assumption⟩ | first | lia | grind [zu_at, zu_atL, zvn]) (by first | with_reducible assumption | exact ⟨by with_reducible assumption, by with_reducible assumption⟩ | first | lia | grind [zu_at, zu_atL, zvn])) (fun o_37 ho_37 => ?_)
    refine zw_some ?_
    first | exact True.intro | ((try dsimp only); (repeat' apply And.intro) <;> first | with_reducible assumption | first | lia | grind [zu_at, zu_atL, zvn])
  refine zw_zj (fun s_2 => (∀ i : Nat, 0 ≤ s_2.2.2.2.2.2.2.2.2.2.2.2.2.2.2.1 i ∧ s_2.2.2.2.2.2.2.2.2.2.2.2.2.2.2.1 i ≤ 1) ∧ (∀ i : Nat, 0 ≤ s_2.2.2.2.2.2.2.2.2.2.2.2.2.2.2.2.1 i ∧ s_2.2.2.2.2.2.2.2.2.2.2.2.2.2.2.2.1 i ≤ 13) ∧ (∀ i : Nat, 0 ≤ s_2.2.2.2.2.2.2.2.2.2.2.2.2.2.2.2.2.1 i ∧ s_2.2.2.2.2.2.2.2.2.2.2.2.2.2.2.2.2.1 i ≤ 14) ∧ (∀ i : Nat, 0 ≤ s_2.2.2.2.2.2.2.2.2.2.2.2.2.2.2.2.2.2.1 i ∧ s_2.2.2.2.2.2.2.2.2.2.2.2.2.2.2.2.2.2.1 i ≤ 14) ∧ 0 ≤ s_2.1 ∧ s_2.1 ≤ 1 ∧ (-1) ≤ s_2.2.2.2.2.2.1 ∧ s_2.2.2.2.2.2.1 ≤ 13 ∧ (-1) ≤ s_2.2.2.2.2.2.2.1 ∧ s_2.2.2.2.2.2.2.1 ≤ 3 ∧ 0 ≤ s_2.2.2.2.2.2.2.2.1 ∧ s_2.2.2.2.2.2.2.2.1 ≤ 1 ∧ 0 ≤ s_2.2.2.2.2.2.2.2.2.1 ∧ s_2.2.2.2.2.2.2.2.2.1 ≤ 1 ∧ 0 ≤ s_2.2.2.2.2.2.2.2.2.2.1 ∧ s_2.2.2.2.2.2.2.2.2.2.1 ≤ 28 ∧ s_2.1 ≤ v3_0 ∧ v1_2 ≤ s_2.2.2.2.2.2.2.2.1) (fun s_2 Hj_2 => ?_) (fun j_2 hj_2 => ?_)
  · obtain ⟨s_2_0, s_2_1, s_2_2, s_2_3, s_2_4, s_2_5, s_2_6, s_2_7, s_2_8, s_2_9, s_2_10, s_2_11, s_2_12, s_2_13, s_2_14, s_2_15, s_2_16, s_2_17, s_2_18, s_2_19⟩ := s_2
    try dsimp only at Hj_2
    obtain ⟨Hj_2_0, Hj_2_1, Hj_2_2, Hj_2_3, Hj_2_4, Hj_2_5, Hj_2_6, Hj_2_7, Hj_2_8, Hj_2_9, Hj_2_10, Hj_2_11, Hj_2_12, Hj_2_13, Hj_2_14, Hj_2_15, Hj_2_16, Hj_2_17⟩ := Hj_2
    refine zw_if (fun c3 => ?_) (fun c3 => ?_)
    · refine zw_zb0 (sf_X11_refuse 2 f35) (fun o_4 ho_4 => ?_)
      obtain ⟨o_4_0, o_4_1⟩ := o_4
      try dsimp only at ho_4
      obtain ⟨ho_4_0, ho_4_1⟩ := ho_4
      refine zw_some ?_
      first | exact True.intro | ((try dsimp only); (repeat' apply And.intro) <;> first | with_reducible assumption | ((try clear hj_2); first | lia | grind [zu_at, zu_atL, zvn]))
    refine zw_zb0 (sf_X9_priceOf v2_0 v2_5 v3_0 f12 f10 s_2_12 f20 (by first | with_reducible assumption | exact ⟨by with_reducible assumption, by with_reducible assumption⟩ | ((try clear hj_2); first | lia | grind [zu_at, zu_atL, zvn])) (by first | with_reducible assumption | exact ⟨by with_reducible assumption, by with_reducible assumption⟩ | ((try clear hj_2); first | lia | grind [zu_at, zu_atL, zvn])) (by first | with_reducible assumption | exact ⟨by with_reducible assumption, by with_reducible assumption⟩ | ((try clear hj_2); first | lia | grind [zu_at, zu_atL, zvn]))) (fun o_8 ho_8 => ?_)
    refine zw_some ?_
    first | exact True.intro | ((try dsimp only); (repeat' apply And.intro) <;> first | with_reducible assumption | ((try clear hj_2); first | lia | grind [zu_at, zu_atL, zvn]))
  refine zw_zj (fun s_12 => (∀ i : Nat, 0 ≤ s_12.2.2.2.2.2.2.2.1 i ∧ s_12.2.2.2.2.2.2.2.1 i ≤ 1) ∧ (∀ i : Nat, 0 ≤ s_12.2.2.2.2.2.2.2.2.1 i ∧ s_12.2.2.2.2.2.2.2.2.1 i ≤ 13) ∧ (∀ i : Nat, 0 ≤ s_12.2.2.2.2.2.2.2.2.2.1 i ∧ s_12.2.2.2.2.2.2.2.2.2.1 i ≤ 14) ∧ (∀ i : Nat, 0 ≤ s_12.2.2.2.2.2.2.2.2.2.2.1 i ∧ s_12.2.2.2.2.2.2.2.2.2.2.1 i ≤ 14) ∧ 0 ≤ s_12.2.2.1 ∧ s_12.2.2.1 ≤ 1 ∧ 0 ≤ s_12.2.2.2.1 ∧ s_12.2.2.2.1 ≤ 1 ∧ 0 ≤ s_12.2.2.2.2.1 ∧ s_12.2.2.2.2.1 ≤ 28 ∧ v1_2 ≤ s_12.2.2.1 ∧ s_12.2.2.2.1 ≤ v1_3) (fun s_12 Hj_12 => ?_) (fun j_12 hj_12 => ?_)
  · obtain ⟨s_12_0, s_12_1, s_12_2, s_12_3, s_12_4, s_12_5, s_12_6, s_12_7, s_12_8, s_12_9, s_12_10, s_12_11, s_12_12⟩ := s_12
    try dsimp only at Hj_12
    obtain ⟨Hj_12_0, Hj_12_1, Hj_12_2, Hj_12_3, Hj_12_4, Hj_12_5, Hj_12_6, Hj_12_7, Hj_12_8, Hj_12_9, Hj_12_10, Hj_12_11⟩ := Hj_12
    refine zw_if (fun c4 => ?_) (fun c4 => ?_)
    · refine zw_zb0 (sf_X11_takeSingle v2_0 v2_5 v3_0 v4_0 v4_2 v1_12 v1_13 v1_14 v1_15 f24 f25 f12 f10 f20 f7 s_12_5 s_12_6 f5 f11 s_12_12 f14 f16 f17 f18 f19 (by first | with_reducible assumption | exact ⟨by with_reducible assumption, by with_reducible assumption⟩ | ((try clear hj_2); (try clear hj_12); first | lia | grind [zu_at, zu_atL, zvn])) (by first | with_reducible assumption | exact ⟨by with_reducible assumption, by with_reducible assumption⟩ | ((try clear hj_2); (try clear hj_12); first | lia | grind [zu_at, zu_atL, zvn])) (by first | with_reducible assumption | exact ⟨by with_reducible assumption, by with_reducible assumption⟩ | ((try clear hj_2); (try clear hj_12); first | lia | grind [zu_at, zu_atL, zvn])) (by first | with_reducible assumption | exact ⟨by with_reducible assumption, by with_reducible assumption⟩ | ((try clear hj_2); (try clear hj_12); first | lia | grind [zu_at, zu_atL, zvn])) (by first | with_reducible assumption | exact ⟨by with_reducible assumption, by with_reducible assumption⟩ | ((try clear hj_2); (try clear hj_12); first | lia | grind [zu_at, zu_atL, zvn])) (by first | with_reducible assumption | exact ⟨by with_reducible assumption, by with_reducible assumption⟩ | ((try clear hj_2); (try clear hj_12); first | lia | grind [zu_at, zu_atL, zvn])) (by first | with_reducible assumption | exact ⟨by with_reducible assumption, by with_reducible assumption⟩ | ((try clear hj_2); (try clear hj_12); first | lia | grind [zu_at, zu_atL, zvn]))) (fun o_14 ho_14 => ?_)
      obtain ⟨o_14_0, o_14_1, o_14_2, o_14_3, o_14_4, o_14_5, o_14_6, o_14_7, o_14_8, o_14_9⟩ := o_14
      try dsimp only at ho_14
      obtain ⟨ho_14_0, ho_14_1, ho_14_2, ho_14_3, ho_14_4, ho_14_5, ho_14_6, ho_14_7, ho_14_8, ho_14_9, ho_14_10, ho_14_11, ho_14_12⟩ := ho_14
      exact hj_2 _ (by first | exact True.intro | ((try dsimp only); (repeat' apply And.intro) <;> first | with_reducible assumption | ((try clear hj_2); (try clear hj_12); first | lia | grind [zu_at, zu_atL, zvn])))
    exact hj_2 _ (by first | exact True.intro | ((try dsimp only); (repeat' apply And.intro) <;> first | with_reducible assumption | ((try clear hj_2); (try clear hj_12); first | lia | grind [zu_at, zu_atL, zvn])))
  refine zw_if (fun c5 => ?_) (fun c5 => ?_)
  · refine zw_zb0 (sf_X3_goByHalves v1_2 v1_3 v1_8 v1_10 v1_11 v2_0 v2_5 v3_0 v4_0 v4_2 f5 f6 f7 f8 v9_1 v9_2 f10 f11 f12 f13 f14 f16 f17 f18 f19 f20 f21 f22 f23 (by first | with_reducible assumption | exact ⟨by with_reducible assumption, by with_reducible assumption⟩ | ((try clear hj_2); (try clear hj_12); first | lia | grind [zu_at, zu_atL, zvn])) (by first | with_reducible assumption | exact ⟨by with_reducible assumption, by with_reducible assumption⟩ | ((try clear hj_2); (try clear hj_12); first | lia | grind [zu_at, zu_atL, zvn])) (by first | with_reducible assumption | exact ⟨by with_reducible assumption, by with_reducible assumption⟩ | ((try clear hj_2); (try clear hj_12); first | lia | grind [zu_at, zu_atL, zvn])) (by first | with_reducible assumption | exact ⟨by with_reducible assumption, by with_reducible assumption⟩ | ((try clear hj_2); (try clear hj_12); first | lia | grind [zu_at, zu_atL, zvn])) (by first | with_reducible assumption | exact ⟨by with_reducible assumption, by with_reducible assumption⟩ | ((try clear hj_2); (try clear hj_12); first | lia | grind [zu_at, zu_atL, zvn])) (by first | with_reducible assumption | exact ⟨by with_reducible assumption, by with_reducible assumption⟩ | ((try clear hj_2); (try clear hj_12); first | lia | grind [zu_at, zu_atL, zvn])) (by first | with_reducible assumption | exact ⟨by with_reducible assumption, by with_reducible assumption⟩ | ((try clear hj_2); (try clear hj_12); first | lia | grind [zu_at, zu_atL, zvn])) (by first | with_reducible assumption | exact ⟨by with_reducible assumption, by with_reducible assumption⟩ | ((try clear hj_2); (try clear hj_12); first | lia | grind [zu_at, zu_atL, zvn])) (by first | with_reducible assumption | exact ⟨by with_reducible assumption, by with_reducible assumption⟩ | ((try clear hj_2); (try clear hj_12); first | lia | grind [zu_at, zu_atL, zvn])) (by first | with_reducible assumption | exact ⟨by with_reducible assumption, by with_reducible assumption⟩ | ((try clear hj_2); (try clear hj_12); first | lia | grind [zu_at, zu_atL, zvn])) (by first | with_reducible assumption | exact ⟨by with_reducible assumption, by with_reducible assumption⟩ | ((try clear hj_2); (try clear hj_12); first | lia | grind [zu_at, zu_atL, zvn])) (by first | with_reducible assumption | exact ⟨by with_reducible assumption, by with_reducible assumption⟩ | ((try clear hj_2); (try clear hj_12); first | lia | grind [zu_at, zu_atL, zvn]))) (fun o_19 ho_19 => ?_)
    obtain ⟨o_19_0, o_19_1, o_19_2, o_19_3, o_19_4, o_19_5, o_19_6, o_19_7, o_19_8, o_19_9, o_19_10, o_19_11, o_19_12, o_19_13⟩ := o_19
    try dsimp only at ho_19
    obtain ⟨ho_19_0, ho_19_1, ho_19_2, ho_19_3, ho_19_4, ho_19_5, ho_19_6, ho_19_7, ho_19_8, ho_19_9, ho_19_10, ho_19_11, ho_19_12, ho_19_13, ho_19_14, ho_19_15, ho_19_16, ho_19_17, ho_19_18, ho_19_19⟩ := ho_19
    refine zw_if (fun c6 => ?_) (fun c6 => ?_)
    · exact hj_12 _ (by first | exact True.intro | ((try dsimp only); (repeat' apply And.intro) <;> first | with_reducible assumption | ((try clear hj_2); (try clear hj_12); first | lia | grind [zu_at, zu_atL, zvn])))
    refine zw_zb0 (sf_X11_copyChoice o_19_6 f24) (fun o_24 ho_24 => ?_)
    exact hj_2 _ (by first | exact True.intro | ((try dsimp only); (repeat' apply And.intro) <;> first | with_reducible assumption | ((try clear hj_2); (try clear hj_12); first | lia | grind [zu_at, zu_atL, zvn])))
  exact hj_12 _ (by first | exact True.intro | ((try dsimp only); (repeat' apply And.intro) <;> first | with_reducible assumption | ((try clear hj_2); (try clear hj_12); first | lia | grind [zu_at, zu_atL, zvn])))
set_option maxHeartbeats 4000000 in
set_option maxRecDepth 100000 in
theorem sf_X11_front (p1 : Int32) (p2 : Int32) (p3 : Int32) (v1_0 : Int32) (v1_5 : Int32) (v2_0 : Int32) (f3 : Nat → Int32) (v4_2 : Int32) (v4_3 : Int32) (v4_6 : Int32) (v4_7 : Int32) (v4_8 : Int32) (v4_9 : Int32) (v4_10 : Int32) (v5_0 : Int32) (v5_1 : Int32) (v5_2 : Int32) (n6 : Nat) (f6 : Nat → Int32) (n7 : Nat) (f7 : Nat → Int32) (n8 : Nat) (f8 : Nat → Int32) (n9 : Nat) (f9 : Nat → Int32) (n10 : Nat) (f10 : Nat → Int32) (f11 : Nat → Int32) (f12 : Nat → Int32) (v13_1 : Int32) (v13_2 : Int32) (f14 : Nat → Int32) (f15 : Nat → Int32) (f16 : Nat → Int32) (f17 : Nat → Int32) (f18 : Nat → Int64) (f19 : Nat → Int32) (f21 : Nat → Int64) (f22 : Nat → Int64) (f23 : Nat → Int32) (f24 : Nat → Int32) (h_v1_0 : 0 ≤ v1_0 ∧ v1_0 ≤ 4) (h_v2_0 : 0 ≤ v2_0 ∧ v2_0 ≤ 14) (h_v4_2 : 0 ≤ v4_2 ∧ v4_2 ≤ 1) (h_v4_3 : 0 ≤ v4_3 ∧ v4_3 ≤ 14) (h_v4_6 : 0 ≤ v4_6 ∧ v4_6 ≤ 1024) (h_v4_10 : 0 ≤ v4_10 ∧ v4_10 ≤ 1024) (h_v5_0 : 0 ≤ v5_0 ∧ v5_0 ≤ 14) (h_v5_1 : 0 ≤ v5_1 ∧ v5_1 ≤ 14) (h_v5_2 : 0 ≤ v5_2 ∧ v5_2 ≤ 1) (h_n6 : n6 ≤ 1024) (hN_n6 : 0 ≤ Int32.ofNat n6 ∧ Int32.ofNat n6 ≤ 1024) (h_n7 : n7 ≤ 14336) (hN_n7 : 0 ≤ Int32.ofNat n7 ∧ Int32.ofNat n7 ≤ 14336) (h_n8 : n8 ≤ 1024) (hN_n8 : 0 ≤ Int32.ofNat n8 ∧ Int32.ofNat n8 ≤ 1024) (h_n9 : n9 ≤ 1024) (hN_n9 : 0 ≤ Int32.ofNat n9 ∧ Int32.ofNat n9 ≤ 1024) (h_n10 : n10 ≤ 1024) (hN_n10 : 0 ≤ Int32.ofNat n10 ∧ Int32.ofNat n10 ≤ 1024) (h_f14 : (∀ i : Nat, 0 ≤ f14 i ∧ f14 i ≤ 13)) (hr_0 : v4_10 ≤ (Int32.ofNat n9)) (hr_1 : v4_10 ≤ (Int32.ofNat n8)) (hr_2 : v4_10 ≤ (Int32.ofNat n10)) (hr_3 : v4_6 ≤ (Int32.ofNat n6)) (hr_4 : (Int32.ofNat n6) ≤ (Int32.ofNat n9)) (hr_5 : (Int32.ofNat n6) ≤ (Int32.ofNat n8)) (hr_6 : (Int32.ofNat n6) ≤ (Int32.ofNat n10)) (hr_7 : (Int32.ofNat n9) ≤ (Int32.ofNat n6)) (hr_8 : (Int32.ofNat n8) ≤ (Int32.ofNat n6)) (hr_9 : (Int32.ofNat n10) ≤ (Int32.ofNat n6)) : zw (fn_X11_front p1 p2 p3 v1_0 v1_5 v2_0 f3 v4_2 v4_3 v4_6 v4_7 v4_8 v4_9 v4_10 v5_0 v5_1 v5_2 n6 f6 n7 f7 n8 f8 n9 f9 n10 f10 f11 f12 v13_1 v13_2 f14 f15 f16 f17 f18 f19 f21 f22 f23 f24) (fun r => 0 ≤ r.2.1 ∧ r.2.1 ≤ 1024 ∧ 0 ≤ r.2.2.1 ∧ r.2.2.1 ≤ 1 ∧ 0 ≤ r.2.2.2.1 ∧ r.2.2.2.1 ≤ 14 ∧ 0 ≤ r.2.2.2.2.1 ∧ r.2.2.2.2.1 ≤ 1024 ∧ r.2.2.2.2.2.2.2.2.2.1 ≤ 1024 ∧ 0 ≤ Int32.ofNat r.2.2.2.2.2.2.2.2.2.1 ∧ Int32.ofNat r.2.2.2.2.2.2.2.2.2.1 ≤ 1024 ∧ r.2.2.2.2.2.2.2.2.2.2.2.1 ≤ 14336 ∧ 0 ≤ Int32.ofNat r.2.2.2.2.2.2.2.2.2.2.2.1 ∧ Int32.ofNat r.2.2.2.2.2.2.2.2.2.2.2.1 ≤ 14336 ∧ r.2.2.2.2.2.2.2.2.2.2.2.2.2.1 ≤ 1024 ∧ 0 ≤ Int32.ofNat r.2.2.2.2.2.2.2.2.2.2.2.2.2.1 ∧ Int32.ofNat r.2.2.2.2.2.2.2.2.2.2.2.2.2.1 ≤ 1024 ∧ r.2.2.2.2.2.2.2.2.2.2.2.2.2.2.2.1 ≤ 1024 ∧ 0 ≤ Int32.ofNat r.2.2.2.2.2.2.2.2.2.2.2.2.2.2.2.1 ∧ Int32.ofNat r.2.2.2.2.2.2.2.2.2.2.2.2.2.2.2.1 ≤ 1024 ∧ r.2.2.2.2.2.2.2.2.2.2.2.2.2.2.2.2.2.1 ≤ 1024 ∧ 0 ≤ Int32.ofNat r.2.2.2.2.2.2.2.2.2.2.2.2.2.2.2.2.2.1 ∧ Int32.ofNat r.2.2.2.2.2.2.2.2.2.2.2.2.2.2.2.2.2.1 ≤ 1024 ∧ r.2.1 ≤ (Int32.ofNat r.2.2.2.2.2.2.2.2.2.2.2.2.2.2.2.1) ∧ r.2.1 ≤ (Int32.ofNat r.2.2.2.2.2.2.2.2.2.2.2.2.2.1) ∧ r.2.1 ≤ (Int32.ofNat r.2.2.2.2.2.2.2.2.2.2.2.2.2.2.2.2.2.1) ∧ r.2.2.2.2.1 ≤ (Int32.ofNat r.2.2.2.2.2.2.2.2.2.1) ∧ (Int32.ofNat r.2.2.2.2.2.2.2.2.2.1) ≤ (Int32.ofNat r.2.2.2.2.2.2.2.2.2.2.2.2.2.2.2.1) ∧ (Int32.ofNat r.2.2.2.2.2.2.2.2.2.1) ≤ (Int32.ofNat r.2.2.2.2.2.2.2.2.2.2.2.2.2.1) ∧ (Int32.ofNat r.2.2.2.2.2.2.2.2.2.1) ≤ (Int32.ofNat r.2.2.2.2.2.2.2.2.2.2.2.2.2.2.2.2.2.1) ∧ (Int32.ofNat r.2.2.2.2.2.2.2.2.2.2.2.2.2.2.2.1) ≤ (Int32.ofNat r.2.2.2.2.2.2.2.2.2.1) ∧ (Int32.ofNat r.2.2.2.2.2.2.2.2.2.2.2.2.2.1) ≤ (Int32.ofNat r.2.2.2.2.2.2.2.2.2.1) ∧ (Int32.ofNat r.2.2.2.2.2.2.2.2.2.2.2.2.2.2.2.2.2.1) ≤ (Int32.ofNat r.2.2.2.2.2.2.2.2.2.1)) := by
  unfold fn_X11_front
  refine zw_zb0 (sf_X9_isAnswer p1 v2_0 f3 (by first | with_reducible assumption | exact ⟨by with_reducible assumption, by with_reducible assumption⟩ | first | lia | grind [zu_at, zu_atL, zvn])) (fun o_1 ho_1 => ?_)
  obtain ⟨ho_1_0, ho_1_1, ho_1_2, ho_1_3, ho_1_4, ho_1_5⟩ := ho_1
  refine zw_if (fun c1 => ?_) (fun c1 => ?_)
  · refine zw_some ?_
    first | exact True.intro | ((try dsimp only); (repeat' apply And.intro) <;> first | with_reducible assumption | first | lia | grind [zu_at, zu_atL, zvn])
  refine zw_zb0 (sf_X1_search v4_2 v4_3 v4_6 v4_7 v4_8 v1_0 v1_5 v2_0 v5_0 v5_1 v5_2 f3 n6 f6 n7 f7 n8 f8 n9 f9 n10 f10 f11 f12 v13_1 v13_2 f14 f15 f16 f17 f18 f19 f21 f22 f23 f24 (by first | with_reducible assumption | exact ⟨by with_reducible assumption, by with_reducible assumption⟩ | first | lia | grind [zu_at, zu_atL, zvn]) (by first | with_reducible assumption | exact ⟨by with_reducible assumption, by with_reducible assumption⟩ | first | lia | grind [zu_at, zu_atL, zvn]) (by first | with_reducible assumption | exact ⟨by with_reducible assumption, by with_reducible assumption⟩ | first | lia | grind [zu_at, zu_atL, zvn]) (by first | with_reducible assumption | exact ⟨by with_reducible assumption, by with_reducible assumption⟩ | first | lia | grind [zu_at, zu_atL, zvn]) (by first | with_reducible assumption | exact ⟨by with_reducible assumption, by with_reducible assumption⟩ | first | lia | grind [zu_at, zu_atL, zvn]) (by first | with_reducible assumption | exact ⟨by with_reducible assumption, by with_reducible assumption⟩ | first | lia | grind [zu_at, zu_atL, zvn]) (by first | with_reducible assumption | exact ⟨by with_reducible assumption, by with_reducible assumption⟩ | first | lia | grind [zu_at, zu_atL, zvn]) (by first | with_reducible assumption | exact ⟨by with_reducible assumption, by with_reducible assumption⟩ | first | lia | grind [zu_at, zu_atL, zvn]) (by first | with_reducible assumption | exact ⟨by with_reducible assumption, by with_reducible assumption⟩ | first | lia | grind [zu_at, zu_atL, zvn]) (by first | with_reducible assumption | exact ⟨by with_reducible assumption, by with_reducible assumption⟩ | first | lia | grind [zu_at, zu_atL, zvn]) (by first | with_reducible assumption | exact ⟨by with_reducible assumption, by with_reducible assumption⟩ | first | lia | grind [zu_at, zu_atL, zvn]) (by first | with_reducible assumption | exact ⟨by with_reducible assumption, by with_reducible assumption⟩ | first | lia | grind [zu_at, zu_atL, zvn]) (by first | with_reducible assumption | exact ⟨by with_reducible assumption, by with_reducible assumption⟩ | first | lia | grind [zu_at, zu_atL, zvn]) (by first | with_reducible assumption | exact ⟨by with_reducible assumption, by with_reducible assumption⟩ | first | lia | grind [zu_at, zu_atL, zvn]) (by first | with_reducible assumption | exact ⟨by with_reducible assumption, by with_reducible assumption⟩ | first | lia | grind [zu_at, zu_atL, zvn]) (by first | with_reducible assumption | exact ⟨by with_reducible assumption, by with_reducible assumption⟩ | first | lia | grind [zu_at, zu_atL, zvn]) (by first | with_reducible assumption | exact ⟨by with_reducible assumption, by with_reducible assumption⟩ | first | lia | grind [zu_at, zu_atL, zvn]) (by first | with_reducible assumption | exact ⟨by with_reducible assumption, by with_reducible assumption⟩ | first | lia | grind [zu_at, zu_atL, zvn]) (by first | with_reducible assumption | exact ⟨by with_reducible assumption, by with_reducible assumption⟩ | first | lia | grind [zu_at, zu_atL, zvn]) (by first | with_reducible assumption | exact ⟨by with_reducible assumption, by with_reducible assumption⟩ | first | lia | grind [zu_at, zu_atL, zvn]) (by first | with_reducible assumption | exact ⟨by with_reducible assumption, by with_reducible assumption⟩ | first | lia | grind [zu_at, zu_atL, zvn]) (by first | with_reducible assumption | exact ⟨by with_reducible assumption, by with_reducible assumption⟩ | first | lia | grind [zu_at, zu_atL, zvn]) (by first | with_reducible assumption | exact ⟨by with_reducible assumption, by with_reducible assumption⟩ | first | lia | grind [zu_at, zu_atL, zvn]) (by first | with_reducible assumption | exact ⟨by with_reducible assumption, by with_reducible assumption⟩ | first | lia | grind [zu_at, zu_atL, zvn]) (by first | with_reducible assumption | exact ⟨by with_reducible assumption, by with_reducible assumption⟩ | first | lia | grind [zu_at, zu_atL, zvn]) (by first | with_reducible assumption | exact ⟨by with_reducible assumption, by with_reducible assumption⟩ | first | lia | grind [zu_at, zu_atL, zvn])) (fun o_6 ho_6 => ?_)
  obtain ⟨o_6_0, o_6_1, o_6_2, o_6_3, o_6_4, o_6_5, o_6_6, o_6_7, o_6_8, o_6_9, o_6_10, o_6_11, o_6_12, o_6_13, o_6_14, o_6_15, o_6_16, o_6_17, o_6_18, o_6_19⟩ := o_6
  try dsimp only at ho_6
  obtain ⟨ho_6_0, ho_6_1, ho_6_2, ho_6_3, ho_6_4, ho_6_5, ho_6_6, ho_6_7, ho_6_8, ho_6_9, ho_6_10, ho_6_11, ho_6_12, ho_6_13, ho_6_14, ho_6_15, ho_6_16, ho_6_17, ho_6_18, ho_6_19, ho_6_20, ho_6_21, ho_6_22, ho_6_23, ho_6_24, ho_6_25, ho_6_26, ho_6_27, ho_6_28, ho_6_29, ho_6_30⟩ := ho_6
  refine zw_if (fun c2 => ?_) (fun c2 => ?_)
  · refine zw_some ?_
    first | exact True.intro | ((try dsimp only); (repeat' apply And.intro) <;> first | with_reducible assumption | first | lia | grind [zu_at, zu_atL, zvn])
  refine zw_zb0 (sf_X1_drawFront p1 o_6_2 o_6_3 v4_9 v4_10 v2_0 f3 o_6_9 o_6_8 o_6_7 o_6_6 o_6_13 o_6_12 o_6_11 o_6_10 o_6_15 o_6_14 (by first | with_reducible assumption | exact ⟨by with_reducible assumption, by with_reducible assumption⟩ | first | lia | grind [zu_at, zu_atL, zvn]) (by first | with_reducible assumption | exact ⟨by with_reducible assumption, by with_reducible assumption⟩ | first | lia | grind [zu_at, zu_atL, zvn]) (by first | with_reducible assumption | exact ⟨by with_reducible assumption, by with_reducible assumption⟩ | first | lia | grind [zu_at, zu_atL, zvn]) (by first | with_reducible assumption | exact ⟨by with_reducible assumption, by with_reducible assumption⟩ | first | lia | grind [zu_at, zu_atL, zvn]) (by first | with_reducible assumption | exact ⟨by with_reducible assumption, by with_reducible assumption⟩ | first | lia | grind [zu_at, zu_atL, zvn]) (by first | with_reducible assumption | exact ⟨by with_reducible assumption, by with_reducible assumption⟩ | first | lia | grind [zu_at, zu_atL, zvn]) (by first | with_reducible assumption | exact ⟨by with_reducible assumption, by with_reducible assumption⟩ | first | lia | grind [zu_at, zu_atL, zvn]) (by first | with_reducible assumption | exact ⟨by with_reducible assumption, by with_reducible assumption⟩ | first | lia | grind [zu_at, zu_atL, zvn]) (by first | with_reducible assumption | exact ⟨by with_reducible assumption, by with_reducible assumption⟩ | first | lia | grind [zu_at, zu_atL, zvn]) (by first | with_reducible assumption | exact ⟨by with_reducible assumption, by with_reducible assumption⟩ | first | lia | grind [zu_at, zu_atL, zvn]) (by first | with_reducible assumption | exact ⟨by with_reducible assumption, by with_reducible assumption⟩ | first | lia | grind [zu_at, zu_atL, zvn]) (by first | with_reducible assumption | exact ⟨by with_reducible assumption, by with_reducible assumption⟩ | first | lia | grind [zu_at, zu_atL, zvn]) (by first | with_reducible assumption | exact ⟨by with_reducible assumption, by with_reducible assumption⟩ | first | lia | grind [zu_at, zu_atL, zvn]) (by first | with_reducible assumption | exact ⟨by with_reducible assumption, by with_reducible assumption⟩ | first | lia | grind [zu_at, zu_atL, zvn]) (by first | with_reducible assumption | exact ⟨by with_reducible assumption, by with_reducible assumption⟩ | first | lia | grind [zu_at, zu_atL, zvn]) (by first | with_reducible assumption | exact ⟨by with_reducible assumption, by with_reducible assumption⟩ | first | lia | grind [zu_at, zu_atL, zvn]) (by first | with_reducible assumption | exact ⟨by with_reducible assumption, by with_reducible assumption⟩ | first | lia | grind [zu_at, zu_atL, zvn]) (by first | with_reducible assumption | exact ⟨by with_reducible assumption, by with_reducible assumption⟩ | first | lia | grind [zu_at, zu_atL, zvn]) (by first | with_reducible assumption | exact ⟨by with_reducible assumption, by with_reducible assumption⟩ | first | lia | grind [zu_at, zu_atL, zvn]) (by first | with_reducible assumption | exact ⟨by with_reducible assumption, by with_reducible assumption⟩ | first | lia | grind [zu_at, zu_atL, zvn]) (by first | with_reducible assumption | exact ⟨by with_reducible assumption, by with_reducible assumption⟩ | first | lia | grind [zu_at, zu_atL, zvn]) (by first | with_reducible assumption | exact ⟨by with_reducible assumption, by with_reducible assumption⟩ | first | lia | grind [zu_at, zu_atL, zvn]) (by first | with_reducible assumption | exact ⟨by with_reducible assumption, by with_reducible assumption⟩ | first | lia | grind [zu_at, zu_atL, zvn]) (by first | with_reducible assumption | exact ⟨by with_reducible assumption, by with_reducible assumption⟩ | first | lia | grind [zu_at, zu_atL, zvn])) (fun o_11 ho_11 => ?_)
  obtain ⟨o_11_0, o_11_1, o_11_2, o_11_3, o_11_4⟩ := o_11
  try dsimp only at ho_11
  obtain ⟨ho_11_0, ho_11_1, ho_11_2, ho_11_3, ho_11_4⟩ := ho_11
  refine zw_if (fun c3 => ?_) (fun c3 => ?_)
  · refine zw_if (fun c4 => ?_) (fun c4 => ?_)
    · refine zw_some ?_
      first | exact True.intro | ((try dsimp only); (repeat' apply And.intro) <;> first | with_reducible assumption | first | lia | grind [zu_at, zu_atL, zvn])
    refine zw_some ?_
    first | exact True.intro | ((try dsimp only); (repeat' apply And.intro) <;> first | with_reducible assumption | first | lia | grind [zu_at, zu_atL, zvn])
  refine zw_if (fun c5 => ?_) (fun c5 => ?_)
  · refine zw_some ?_
    first | exact True.intro | ((try dsimp only); (repeat' apply And.intro) <;> first | with_reducible assumption | first | lia | grind [zu_at, zu_atL, zvn])
  refine zw_if (fun c6 => ?_) (fun c6 => ?_)
  · refine zw_if (fun c7 => ?_) (fun c7 => ?_)
    · refine zw_zgN (by (try dsimp only); first | lia | grind [zu_at, zu_atL, zvn]) (by (try dsimp only); first | lia | grind [zu_at, zu_atL, zvn]) ?_
      refine zw_some ?_
      first | exact True.intro | ((try dsimp only); (repeat' apply And.intro) <;> first | with_reducible assumption | first | lia | grind [zu_at, zu_atL, zvn])
    refine zw_if (fun c8 => ?_) (fun c8 => ?_)
    · refine zw_zgN (by (try dsimp only); first | lia | grind [zu_at, zu_atL, zvn]) (by (try dsimp only); first | lia | grind [zu_at, zu_atL, zvn]) ?_
      refine zw_some ?_
      first | exact True.intro | ((try dsimp only); (repeat' apply And.intro) <;> first | with_reducible assumption | first | lia | grind [zu_at, zu_atL, zvn])
    refine zw_if (fun c9 => ?_) (fun c9 => ?_)
    · refine zw_zgN (by (try dsimp only); first | lia | grind [zu_at, zu_atL, zvn]) (by (try dsimp only); first | lia | grind [zu_at, zu_atL, zvn]) ?_
      refine zw_some ?_
      first | exact True.intro | ((try dsimp only); (repeat' apply And.intro) <;> first | with_reducible assumption | first | lia | grind [zu_at, zu_atL, zvn])
    refine zw_some ?_
    first | exact True.intro | ((try dsimp only); (repeat' apply And.intro) <;> first | with_reducible assumption | first | lia | grind [zu_at, zu_atL, zvn])
  refine zw_some ?_
  first | exact True.intro | ((try dsimp only); (repeat' apply And.intro) <;> first | with_reducible assumption | first | lia | grind [zu_at, zu_atL, zvn])
set_option maxHeartbeats 4000000 in
set_option maxRecDepth 100000 in
theorem sf_X11_least (p1 : Int32) (p2 : Int32) (v1_0 : Int32) (v1_5 : Int32) (v2_0 : Int32) (f3 : Nat → Int32) (v4_2 : Int32) (v4_3 : Int32) (v4_6 : Int32) (v4_7 : Int32) (v4_8 : Int32) (v5_0 : Int32) (v5_1 : Int32) (v5_2 : Int32) (n6 : Nat) (f6 : Nat → Int32) (n7 : Nat) (f7 : Nat → Int32) (n8 : Nat) (f8 : Nat → Int32) (n9 : Nat) (f9 : Nat → Int32) (n10 : Nat) (f10 : Nat → Int32) (f11 : Nat → Int32) (f12 : Nat → Int32) (v13_1 : Int32) (v13_2 : Int32) (f14 : Nat → Int32) (f15 : Nat → Int32) (f16 : Nat → Int32) (f17 : Nat → Int32) (f18 : Nat → Int64) (f19 : Nat → Int32) (f21 : Nat → Int64) (f22 : Nat → Int64) (f23 : Nat → Int32) (f24 : Nat → Int32) (h_v1_0 : 0 ≤ v1_0 ∧ v1_0 ≤ 4) (h_v2_0 : 0 ≤ v2_0 ∧ v2_0 ≤ 14) (h_v4_2 : 0 ≤ v4_2 ∧ v4_2 ≤ 1) (h_v4_3 : 0 ≤ v4_3 ∧ v4_3 ≤ 14) (h_v4_6 : 0 ≤ v4_6 ∧ v4_6 ≤ 1024) (h_v5_0 : 0 ≤ v5_0 ∧ v5_0 ≤ 14) (h_v5_1 : 0 ≤ v5_1 ∧ v5_1 ≤ 14) (h_v5_2 : 0 ≤ v5_2 ∧ v5_2 ≤ 1) (h_n6 : n6 ≤ 1024) (hN_n6 : 0 ≤ Int32.ofNat n6 ∧ Int32.ofNat n6 ≤ 1024) (h_n7 : n7 ≤ 14336) (hN_n7 : 0 ≤ Int32.ofNat n7 ∧ Int32.ofNat n7 ≤ 14336) (h_n8 : n8 ≤ 1024) (hN_n8 : 0 ≤ Int32.ofNat n8 ∧ Int32.ofNat n8 ≤ 1024) (h_n9 : n9 ≤ 1024) (hN_n9 : 0 ≤ Int32.ofNat n9 ∧ Int32.ofNat n9 ≤ 1024) (h_n10 : n10 ≤ 1024) (hN_n10 : 0 ≤ Int32.ofNat n10 ∧ Int32.ofNat n10 ≤ 1024) (h_f14 : (∀ i : Nat, 0 ≤ f14 i ∧ f14 i ≤ 13)) (hr_0 : v4_6 ≤ (Int32.ofNat n6)) (hr_1 : (Int32.ofNat n6) ≤ (Int32.ofNat n9)) (hr_2 : (Int32.ofNat n6) ≤ (Int32.ofNat n8)) (hr_3 : (Int32.ofNat n6) ≤ (Int32.ofNat n10)) (hr_4 : (Int32.ofNat n9) ≤ (Int32.ofNat n6)) (hr_5 : (Int32.ofNat n8) ≤ (Int32.ofNat n6)) (hr_6 : (Int32.ofNat n10) ≤ (Int32.ofNat n6)) : zw (fn_X11_least p1 p2 v1_0 v1_5 v2_0 f3 v4_2 v4_3 v4_6 v4_7 v4_8 v5_0 v5_1 v5_2 n6 f6 n7 f7 n8 f8 n9 f9 n10 f10 f11 f12 v13_1 v13_2 f14 f15 f16 f17 f18 f19 f21 f22 f23 f24) (fun r => 0 ≤ r.2.1 ∧ r.2.1 ≤ 1 ∧ 0 ≤ r.2.2.1 ∧ r.2.2.1 ≤ 14 ∧ 0 ≤ r.2.2.2.1 ∧ r.2.2.2.1 ≤ 1024 ∧ r.2.2.2.2.2.2.2.1 ≤ 1024 ∧ 0 ≤ Int32.ofNat r.2.2.2.2.2.2.2.1 ∧ Int32.ofNat r.2.2.2.2.2.2.2.1 ≤ 1024 ∧ r.2.2.2.2.2.2.2.2.2.1 ≤ 14336 ∧ 0 ≤ Int32.ofNat r.2.2.2.2.2.2.2.2.2.1 ∧ Int32.ofNat r.2.2.2.2.2.2.2.2.2.1 ≤ 14336 ∧ r.2.2.2.2.2.2.2.2.2.2.2.1 ≤ 1024 ∧ 0 ≤ Int32.ofNat r.2.2.2.2.2.2.2.2.2.2.2.1 ∧ Int32.ofNat r.2.2.2.2.2.2.2.2.2.2.2.1 ≤ 1024 ∧ r.2.2.2.2.2.2.2.2.2.2.2.2.2.1 ≤ 1024 ∧ 0 ≤ Int32.ofNat r.2.2.2.2.2.2.2.2.2.2.2.2.2.1 ∧ Int32.ofNat r.2.2.2.2.2.2.2.2.2.2.2.2.2.1 ≤ 1024 ∧ r.2.2.2.2.2.2.2.2.2.2.2.2.2.2.2.1 ≤ 1024 ∧ 0 ≤ Int32.ofNat r.2.2.2.2.2.2.2.2.2.2.2.2.2.2.2.1 ∧ Int32.ofNat r.2.2.2.2.2.2.2.2.2.2.2.2.2.2.2.1 ≤ 1024 ∧ r.2.2.2.1 ≤ (Int32.ofNat r.2.2.2.2.2.2.2.1) ∧ (Int32.ofNat r.2.2.2.2.2.2.2.1) ≤ (Int32.ofNat r.2.2.2.2.2.2.2.2.2.2.2.2.2.1) ∧ (Int32.ofNat r.2.2.2.2.2.2.2.1) ≤ (Int32.ofNat r.2.2.2.2.2.2.2.2.2.2.2.1) ∧ (Int32.ofNat r.2.2.2.2.2.2.2.1) ≤ (Int32.ofNat r.2.2.2.2.2.2.2.2.2.2.2.2.2.2.2.1) ∧ (Int32.ofNat r.2.2.2.2.2.2.2.2.2.2.2.2.2.1) ≤ (Int32.ofNat r.2.2.2.2.2.2.2.1) ∧ (Int32.ofNat r.2.2.2.2.2.2.2.2.2.2.2.1) ≤ (Int32.ofNat r.2.2.2.2.2.2.2.1) ∧ (Int32.ofNat r.2.2.2.2.2.2.2.2.2.2.2.2.2.2.2.1) ≤ (Int32.ofNat r.2.2.2.2.2.2.2.1) ∧ (Int32.ofNat n6) ≤ (Int32.ofNat r.2.2.2.2.2.2.2.1)) := by
  unfold fn_X11_least
  refine zw_zb0 (sf_X9_isAnswer p1 v2_0 f3 (by first | with_reducible assumption | exact ⟨by with_reducible assumption, by with_reducible assumption⟩ | first | lia | grind [zu_at, zu_atL, zvn])) (fun o_1 ho_1 => ?_)
  obtain ⟨ho_1_0, ho_1_1, ho_1_2, ho_1_3, ho_1_4, ho_1_5⟩ := ho_1
  refine zw_if (fun c1 => ?_) (fun c1 => ?_)
  · refine zw_some ?_
    first | exact True.intro | ((try dsimp only); (repeat' apply And.intro) <;> first | with_reducible assumption | first | lia | grind [zu_at, zu_atL, zvn])
  refine zw_zb0 (sf_X1_search v4_2 v4_3 v4_6 v4_7 v4_8 v1_0 v1_5 v2_0 v5_0 v5_1 v5_2 f3 n6 f6 n7 f7 n8 f8 n9 f9 n10 f10 f11 f12 v13_1 v13_2 f14 f15 f16 f17 f18 f19 f21 f22 f23 f24 (by first | with_reducible assumption | exact ⟨by with_reducible assumption, by with_reducible assumption⟩ | first | lia | grind [zu_at, zu_atL, zvn]) (by first | with_reducible assumption | exact ⟨by with_reducible assumption, by with_reducible assumption⟩ | first | lia | grind [zu_at, zu_atL, zvn]) (by first | with_reducible assumption | exact ⟨by with_reducible assumption, by with_reducible assumption⟩ | first | lia | grind [zu_at, zu_atL, zvn]) (by first | with_reducible assumption | exact ⟨by with_reducible assumption, by with_reducible assumption⟩ | first | lia | grind [zu_at, zu_atL, zvn]) (by first | with_reducible assumption | exact ⟨by with_reducible assumption, by with_reducible assumption⟩ | first | lia | grind [zu_at, zu_atL, zvn]) (by first | with_reducible assumption | exact ⟨by with_reducible assumption, by with_reducible assumption⟩ | first | lia | grind [zu_at, zu_atL, zvn]) (by first | with_reducible assumption | exact ⟨by with_reducible assumption, by with_reducible assumption⟩ | first | lia | grind [zu_at, zu_atL, zvn]) (by first | with_reducible assumption | exact ⟨by with_reducible assumption, by with_reducible assumption⟩ | first | lia | grind [zu_at, zu_atL, zvn]) (by first | with_reducible assumption | exact ⟨by with_reducible assumption, by with_reducible assumption⟩ | first | lia | grind [zu_at, zu_atL, zvn]) (by first | with_reducible assumption | exact ⟨by with_reducible assumption, by with_reducible assumption⟩ | first | lia | grind [zu_at, zu_atL, zvn]) (by first | with_reducible assumption | exact ⟨by with_reducible assumption, by with_reducible assumption⟩ | first | lia | grind [zu_at, zu_atL, zvn]) (by first | with_reducible assumption | exact ⟨by with_reducible assumption, by with_reducible assumption⟩ | first | lia | grind [zu_at, zu_atL, zvn]) (by first | with_reducible assumption | exact ⟨by with_reducible assumption, by with_reducible assumption⟩ | first | lia | grind [zu_at, zu_atL, zvn]) (by first | with_reducible assumption | exact ⟨by with_reducible assumption, by with_reducible assumption⟩ | first | lia | grind [zu_at, zu_atL, zvn]) (by first | with_reducible assumption | exact ⟨by with_reducible assumption, by with_reducible assumption⟩ | first | lia | grind [zu_at, zu_atL, zvn]) (by first | with_reducible assumption | exact ⟨by with_reducible assumption, by with_reducible assumption⟩ | first | lia | grind [zu_at, zu_atL, zvn]) (by first | with_reducible assumption | exact ⟨by with_reducible assumption, by with_reducible assumption⟩ | first | lia | grind [zu_at, zu_atL, zvn]) (by first | with_reducible assumption | exact ⟨by with_reducible assumption, by with_reducible assumption⟩ | first | lia | grind [zu_at, zu_atL, zvn]) (by first | with_reducible assumption | exact ⟨by with_reducible assumption, by with_reducible assumption⟩ | first | lia | grind [zu_at, zu_atL, zvn]) (by first | with_reducible assumption | exact ⟨by with_reducible assumption, by with_reducible assumption⟩ | first | lia | grind [zu_at, zu_atL, zvn]) (by first | with_reducible assumption | exact ⟨by with_reducible assumption, by with_reducible assumption⟩ | first | lia | grind [zu_at, zu_atL, zvn]) (by first | with_reducible assumption | exact ⟨by with_reducible assumption, by with_reducible assumption⟩ | first | lia | grind [zu_at, zu_atL, zvn]) (by first | with_reducible assumption | exact ⟨by with_reducible assumption, by with_reducible assumption⟩ | first | lia | grind [zu_at, zu_atL, zvn]) (by first | with_reducible assumption | exact ⟨by with_reducible assumption, by with_reducible assumption⟩ | first | lia | grind [zu_at, zu_atL, zvn]) (by first | with_reducible assumption | exact ⟨by with_reducible assumption, by with_reducible assumption⟩ | first | lia | grind [zu_at, zu_atL, zvn]) (by first | with_reducible assumption | exact ⟨by with_reducible assumption, by with_reducible assumption⟩ | first | lia | grind [zu_at, zu_atL, zvn])) (fun o_6 ho_6 => ?_)
  obtain ⟨o_6_0, o_6_1, o_6_2, o_6_3, o_6_4, o_6_5, o_6_6, o_6_7, o_6_8, o_6_9, o_6_10, o_6_11, o_6_12, o_6_13, o_6_14, o_6_15, o_6_16, o_6_17, o_6_18, o_6_19⟩ := o_6
  try dsimp only at ho_6
  obtain ⟨ho_6_0, ho_6_1, ho_6_2, ho_6_3, ho_6_4, ho_6_5, ho_6_6, ho_6_7, ho_6_8, ho_6_9, ho_6_10, ho_6_11, ho_6_12, ho_6_13, ho_6_14, ho_6_15, ho_6_16, ho_6_17, ho_6_18, ho_6_19, ho_6_20, ho_6_21, ho_6_22, ho_6_23, ho_6_24, ho_6_25, ho_6_26, ho_6_27, ho_6_28, ho_6_29, ho_6_30⟩ := ho_6
  refine zw_if (fun c2 => ?_) (fun c2 => ?_)
  · refine zw_some ?_
    first | exact True.intro | ((try dsimp only); (repeat' apply And.intro) <;> first | with_reducible assumption | first | lia | grind [zu_at, zu_atL, zvn])
  refine zw_zb0 (sf_X1_leastWithin p1 p2 o_6_2 o_6_3 v2_0 f3 o_6_7 o_6_6 o_6_9 o_6_8 (by first | with_reducible assumption | exact ⟨by with_reducible assumption, by with_reducible assumption⟩ | first | lia | grind [zu_at, zu_atL, zvn]) (by first | with_reducible assumption | exact ⟨by with_reducible assumption, by with_reducible assumption⟩ | first | lia | grind [zu_at, zu_atL, zvn]) (by first | with_reducible assumption | exact ⟨by with_reducible assumption, by with_reducible assumption⟩ | first | lia | grind [zu_at, zu_atL, zvn]) (by first | with_reducible assumption | exact ⟨by with_reducible assumption, by with_reducible assumption⟩ | first | lia | grind [zu_at, zu_atL, zvn]) (by first | with_reducible assumption | exact ⟨by with_reducible assumption, by with_reducible assumption⟩ | first | lia | grind [zu_at, zu_atL, zvn]) (by first | with_reducible assumption | exact ⟨by with_reducible assumption, by with_reducible assumption⟩ | first | lia | grind [zu_at, zu_atL, zvn]) (by first | with_reducible assumption | exact ⟨by with_reducible assumption, by with_reducible assumption⟩ | first | lia | grind [zu_at, zu_atL, zvn]) (by first | with_reducible assumption | exact ⟨by with_reducible assumption, by with_reducible assumption⟩ | first | lia | grind [zu_at, zu_atL, zvn])) (fun o_11 ho_11 => ?_)
  refine zw_some ?_
  first | exact True.intro | ((try dsimp only); (repeat' apply And.intro) <;> first | with_reducible assumption | first | lia | grind [zu_at, zu_atL, zvn])
set_option maxHeartbeats 4000000 in
set_option maxRecDepth 100000 in
theorem sf_X11_byteOf (j0 : Int64) (p1 : Int32) : zw (fn_X11_byteOf j0 p1) (fun r => True) := by
  unfold fn_X11_byteOf
  refine zw_some ?_
  first | exact True.intro | ((try dsimp only); (repeat' apply And.intro) <;> first | with_reducible assumption | first | lia | grind [zu_at, zu_atL, zvn])
set_option maxHeartbeats 4000000 in
set_option maxRecDepth 100000 in
theorem sf_X11_certificate (p1 : Int32) (v1_0 : Int32) (v2_0 : Int32) (v3_2 : Int32) (v4_1 : Int32) (v4_2 : Int32) (f5 : Nat → Int32) (f6 : Nat → Int32) (f7 : Nat → Int32) (f8 : Nat → Int32) (f9 : Nat → Int32) (f10 : Nat → Int64) (f11 : Nat → Int32) (f13 : Nat → Int64) (f14 : Nat → Int64) (f15 : Nat → Int32) (f16 : Nat → Int32) (h_v1_0 : 0 ≤ v1_0 ∧ v1_0 ≤ 4) (h_v2_0 : 0 ≤ v2_0 ∧ v2_0 ≤ 14) (h_v3_2 : 0 ≤ v3_2 ∧ v3_2 ≤ 1) (h_f5 : (∀ i : Nat, 0 ≤ f5 i ∧ f5 i ≤ 13)) : zw (fn_X11_certificate p1 v1_0 v2_0 v3_2 v4_1 v4_2 f5 f6 f7 f8 f9 f10 f11 f13 f14 f15 f16) (fun r => True) := by
  unfold fn_X11_certificate
  refine zw_if (fun c1 => ?_) (fun c1 => ?_)
  · refine zw_some ?_
    first | exact True.intro | ((try dsimp only); (repeat' apply And.intro) <;> first | with_reducible assumption | first | lia | grind [zu_at, zu_atL, zvn])
  refine zw_if (fun c2 => ?_) (fun c2 => ?_)
  · refine zw_some ?_
    first | exact True.intro | ((try dsimp only); (repeat' apply And.intro) <;> first | with_reducible assumption | first | lia | grind [zu_at, zu_atL, zvn])
  refine zw_zb0 (sf_X11_handPasses v1_0 v2_0 v3_2 v4_1 v4_2 f5 f6 f7 f8 f9 f10 f11 f13 f14 f15 f16 (by first | with_reducible assumption | exact ⟨by with_reducible assumption, by with_reducible assumption⟩ | first | lia | grind [zu_at, zu_atL, zvn]) (by first | with_reducible assumption | exact ⟨by with_reducible assumption, by with_reducible assumption⟩ | first | lia | grind [zu_at, zu_atL, zvn]) (by first | with_reducible assumption | exact ⟨by with_reducible assumption, by with_reducible assumption⟩ | first | lia | grind [zu_at, zu_atL, zvn]) (by first | with_reducible assumption | exact ⟨by with_reducible assumption, by with_reducible assumption⟩ | first | lia | grind [zu_at, zu_atL, zvn])) (fun o_3 ho_3 => ?_)
  obtain ⟨o_3_0, o_3_1, o_3_2, o_3_3⟩ := o_3
  try dsimp only at ho_3
  obtain ⟨ho_3_0, ho_3_1, ho_3_2, ho_3_3, ho_3_4, ho_3_5, ho_3_6⟩ := ho_3
  refine zw_if (fun c3 => ?_) (fun c3 => ?_)
  · refine zw_some ?_
    first | exact True.intro | ((try dsimp only); (repeat' apply And.intro) <;> first | with_reducible assumption | first | lia | grind [zu_at, zu_atL, zvn])
  have hdv := zdiv25 p1 (by lia) (by lia)
  refine zw_if (fun c4 => ?_) (fun c4 => ?_)
  · refine zw_zb0 (sf_X9_formatOf (p1 / 25) v2_0 f5 f6 (by first | with_reducible assumption | exact ⟨by with_reducible assumption, by with_reducible assumption⟩ | first | lia | grind [zu_at, zu_atL, zvn]) (by first | with_reducible assumption | exact ⟨by with_reducible assumption, by with_reducible assumption⟩ | first | lia | grind [zu_at, zu_atL, zvn])) (fun o_26 ho_26 => ?_)
    refine zw_some ?_
    first | exact True.intro | ((try dsimp only); (repeat' apply And.intro) <;> first | with_reducible assumption | first | lia | grind [zu_at, zu_atL, zvn])
  refine zw_if (fun c5 => ?_) (fun c5 => ?_)
  · refine zw_if (fun c6 => ?_) (fun c6 => ?_)
    · refine zw_zg32 14 (by decide) (by (try dsimp only); first | lia | grind [zu_at, zu_atL, zvn]) ?_
      refine zw_zb0 (sf_X11_byteOf (o_3_3 (p1 / 25).toNatClampNeg) ((p1 - ((p1 / 25) * 25)) - 17)) (fun o_12 ho_12 => ?_)
      refine zw_some ?_
      first | exact True.intro | ((try dsimp only); (repeat' apply And.intro) <;> first | with_reducible assumption | first | lia | grind [zu_at, zu_atL, zvn])
    refine zw_zg32 14 (by decide) (by (try dsimp only); first | lia | grind [zu_at, zu_atL, zvn]) ?_
    refine zw_zb0 (sf_X11_byteOf (f14 (p1 / 25).toNatClampNeg) ((p1 - ((p1 / 25) * 25)) - 9)) (fun o_17 ho_17 => ?_)
    refine zw_some ?_
    first | exact True.intro | ((try dsimp only); (repeat' apply And.intro) <;> first | with_reducible assumption | first | lia | grind [zu_at, zu_atL, zvn])
  refine zw_zg32 14 (by decide) (by (try dsimp only); first | lia | grind [zu_at, zu_atL, zvn]) ?_
  refine zw_zb0 (sf_X11_byteOf (f13 (p1 / 25).toNatClampNeg) ((p1 - ((p1 / 25) * 25)) - 1)) (fun o_22 ho_22 => ?_)
  refine zw_some ?_
  first | exact True.intro | ((try dsimp only); (repeat' apply And.intro) <;> first | with_reducible assumption | first | lia | grind [zu_at, zu_atL, zvn])
set_option maxHeartbeats 4000000 in
set_option maxRecDepth 100000 in
theorem sf_X11_check (v0_1 : Int32) (v2_0 : Int32) (v3_0 : Int32) (f4 : Nat → Int32) (v5_0 : Int32) (f6 : Nat → Int32) (f7 : Nat → Int32) (f8 : Nat → Int32) (f10 : Nat → Int64) (f11 : Nat → Int64) (f13 : Nat → Int64) (f14 : Nat → Int32) (f15 : Nat → Int32) (f16 : Nat → Int32) (f17 : Nat → Int32) (f18 : Nat → Int32) (f19 : Nat → Int32) (f20 : Nat → Int32) (h_v0_1 : 0 ≤ v0_1 ∧ v0_1 ≤ 1200) (h_v2_0 : 0 ≤ v2_0 ∧ v2_0 ≤ 4) (h_v3_0 : 0 ≤ v3_0 ∧ v3_0 ≤ 14) (h_v5_0 : 0 ≤ v5_0 ∧ v5_0 ≤ 14) (h_f8 : (∀ i : Nat, 0 ≤ f8 i ∧ f8 i ≤ 13)) : zw (fn_X11_check v0_1 v2_0 v3_0 f4 v5_0 f6 f7 f8 f10 f11 f13 f14 f15 f16 f17 f18 f19 f20) (fun r => 0 ≤ r.1 ∧ r.1 ≤ 1 ∧ 0 ≤ r.2.1 ∧ r.2.1 ≤ 1200 ∧ (-2) ≤ r.2.2.1 ∧ (-1) ≤ r.2.2.2.1 ∧ r.2.1 ≤ 0 ∧ r.2.2.1 ≤ 13 ∧ r.2.2.2.1 ≤ 6 ∧ r.2.1 = 0) := by
  unfold fn_X11_check
  refine zw_zb0 (sf_X0_holds v0_1 v2_0 v3_0 f4 v5_0 f6 f7 f8 f10 f11 f13 f14 f15 f16 f17 f18 f19 (by first | with_reducible assumption | exact ⟨by with_reducible assumption, by with_reducible assumption⟩ | first | lia | grind [zu_at, zu_atL, zvn]) (by first | with_reducible assumption | exact ⟨by with_reducible assumption, by with_reducible assumption⟩ | first | lia | grind [zu_at, zu_atL, zvn]) (by first | with_reducible assumption | exact ⟨by with_reducible assumption, by with_reducible assumption⟩ | first | lia | grind [zu_at, zu_atL, zvn]) (by first | with_reducible assumption | exact ⟨by with_reducible assumption, by with_reducible assumption⟩ | first | lia | grind [zu_at, zu_atL, zvn])) (fun o_1 ho_1 => ?_)
  obtain ⟨o_1_0, o_1_1, o_1_2, o_1_3, o_1_4, o_1_5, o_1_6⟩ := o_1
  try dsimp only at ho_1
  obtain ⟨ho_1_0, ho_1_1, ho_1_2, ho_1_3, ho_1_4, ho_1_5⟩ := ho_1
  refine zw_if (fun c1 => ?_) (fun c1 => ?_)
  · refine zw_zb0 (sf_X11_refuse 3 f20) (fun o_6 ho_6 => ?_)
    obtain ⟨o_6_0, o_6_1⟩ := o_6
    try dsimp only at ho_6
    obtain ⟨ho_6_0, ho_6_1⟩ := ho_6
    refine zw_some ?_
    first | exact True.intro | ((try dsimp only); (repeat' apply And.intro) <;> first | with_reducible assumption | first | lia | grind [zu_at, zu_atL, zvn])
  refine zw_some ?_
  first | exact True.intro | ((try dsimp only); (repeat' apply And.intro) <;> first | with_reducible assumption | first | lia | grind [zu_at, zu_atL, zvn])
set_option maxHeartbeats 4000000 in
set_option maxRecDepth 100000 in
theorem sf_X11_broken (p1 : Int32) (v1_3 : Int32) (v1_4 : Int32) : zw (fn_X11_broken p1 v1_3 v1_4) (fun r => True) := by
  unfold fn_X11_broken
  refine zw_if (fun c1 => ?_) (fun c1 => ?_)
  · refine zw_some ?_
    first | exact True.intro | ((try dsimp only); (repeat' apply And.intro) <;> first | with_reducible assumption | first | lia | grind [zu_at, zu_atL, zvn])
  refine zw_if (fun c2 => ?_) (fun c2 => ?_)
  · refine zw_some ?_
    first | exact True.intro | ((try dsimp only); (repeat' apply And.intro) <;> first | with_reducible assumption | first | lia | grind [zu_at, zu_atL, zvn])
  refine zw_some ?_
  first | exact True.intro | ((try dsimp only); (repeat' apply And.intro) <;> first | with_reducible assumption | first | lia | grind [zu_at, zu_atL, zvn])
set_option maxHeartbeats 4000000 in
set_option maxRecDepth 100000 in
theorem sf_X11_trials (p1 : Int32) (p2 : Int32) (v0_15 : Int32) (f1 : Nat → Int32) (v2_0 : Int32) (v3_0 : Int32) (v4_2 : Int32) (v5_1 : Int32) (v5_2 : Int32) (f6 : Nat → Int32) (f7 : Nat → Int32) (f8 : Nat → Int32) (f9 : Nat → Int32) (f10 : Nat → Int32) (f11 : Nat → Int64) (f12 : Nat → Int32) (f14 : Nat → Int64) (f15 : Nat → Int64) (f16 : Nat → Int32) (f17 : Nat → Int32) (f19 : Nat → Int64) (f20 : Nat → Int64) (h_v2_0 : 0 ≤ v2_0 ∧ v2_0 ≤ 4) (h_v3_0 : 0 ≤ v3_0 ∧ v3_0 ≤ 14) (h_v4_2 : 0 ≤ v4_2 ∧ v4_2 ≤ 1) (h_f6 : (∀ i : Nat, 0 ≤ f6 i ∧ f6 i ≤ 13)) : zw (fn_X11_trials p1 p2 v0_15 f1 v2_0 v3_0 v4_2 v5_1 v5_2 f6 f7 f8 f9 f10 f11 f12 f14 f15 f16 f17 f19 f20) (fun r => True) := by
  unfold fn_X11_trials
  refine zw_if (fun c1 => ?_) (fun c1 => ?_)
  · refine zw_zb0 (sf_X11_refuse 4 f1) (fun o_2 ho_2 => ?_)
    obtain ⟨o_2_0, o_2_1⟩ := o_2
    try dsimp only at ho_2
    obtain ⟨ho_2_0, ho_2_1⟩ := ho_2
    refine zw_some ?_
    first | exact True.intro | ((try dsimp only); (repeat' apply And.intro) <;> first | with_reducible assumption | first | lia | grind [zu_at, zu_atL, zvn])
  refine zw_if (fun c2 => ?_) (fun c2 => ?_)
  · refine zw_zb0 (sf_X11_refuse 4 f1) (fun o_7 ho_7 => ?_)
    obtain ⟨o_7_0, o_7_1⟩ := o_7
    try dsimp only at ho_7
    obtain ⟨ho_7_0, ho_7_1⟩ := ho_7
    refine zw_some ?_
    first | exact True.intro | ((try dsimp only); (repeat' apply And.intro) <;> first | with_reducible assumption | first | lia | grind [zu_at, zu_atL, zvn])
  refine zw_zb0 (sf_X9_hasNumber p2 v3_0 (by first | with_reducible assumption | exact ⟨by with_reducible assumption, by with_reducible assumption⟩ | first | lia | grind [zu_at, zu_atL, zvn])) (fun o_11 ho_11 => ?_)
  obtain ⟨ho_11_0, ho_11_1, ho_11_2, ho_11_3, ho_11_4, ho_11_5⟩ := ho_11
  refine zw_if (fun c3 => ?_) (fun c3 => ?_)
  · refine zw_zb0 (sf_X11_refuse 4 f1) (fun o_16 ho_16 => ?_)
    obtain ⟨o_16_0, o_16_1⟩ := o_16
    try dsimp only at ho_16
    obtain ⟨ho_16_0, ho_16_1⟩ := ho_16
    refine zw_some ?_
    first | exact True.intro | ((try dsimp only); (repeat' apply And.intro) <;> first | with_reducible assumption | first | lia | grind [zu_at, zu_atL, zvn])
  refine zw_zb0 (sf_X11_handPasses v2_0 v3_0 v4_2 v5_1 v5_2 f6 f7 f8 f9 f10 f11 f12 f14 f15 f16 f17 (by first | with_reducible assumption | exact ⟨by with_reducible assumption, by with_reducible assumption⟩ | first | lia | grind [zu_at, zu_atL, zvn]) (by first | with_reducible assumption | exact ⟨by with_reducible assumption, by with_reducible assumption⟩ | first | lia | grind [zu_at, zu_atL, zvn]) (by first | with_reducible assumption | exact ⟨by with_reducible assumption, by with_reducible assumption⟩ | first | lia | grind [zu_at, zu_atL, zvn]) (by first | with_reducible assumption | exact ⟨by with_reducible assumption, by with_reducible assumption⟩ | first | lia | grind [zu_at, zu_atL, zvn])) (fun o_20 ho_20 => ?_)
  obtain ⟨o_20_0, o_20_1, o_20_2, o_20_3⟩ := o_20
  try dsimp only at ho_20
  obtain ⟨ho_20_0, ho_20_1, ho_20_2, ho_20_3, ho_20_4, ho_20_5, ho_20_6⟩ := ho_20
  refine zw_if (fun c4 => ?_) (fun c4 => ?_)
  · refine zw_zb0 (sf_X11_refuse 4 f1) (fun o_33 ho_33 => ?_)
    obtain ⟨o_33_0, o_33_1⟩ := o_33
    try dsimp only at ho_33
    obtain ⟨ho_33_0, ho_33_1⟩ := ho_33
    refine zw_some ?_
    first | exact True.intro | ((try dsimp only); (repeat' apply And.intro) <;> first | with_reducible assumption | first | lia | grind [zu_at, zu_atL, zvn])
  refine zw_zl32 (fun s_25 => 0 ≤ s_25.1 ∧ 0 ≤ s_25.2.1 ∧ s_25.2.1 ≤ 40 ∧ s_25.2.1 ≤ p1) (fun s_25 => 40 - s_25.2.1) (by (try dsimp only); (repeat' apply And.intro) <;> first | with_reducible assumption | first | lia | grind [zu_at, zu_atL, zvn]) (by (try dsimp only); first | lia | grind [zu_at, zu_atL, zvn]) (fun s_25 back_25 Hback_25 hback_25 => ?_)
  obtain ⟨s_25_0, s_25_1, s_25_2, s_25_3, s_25_4⟩ := s_25
  try dsimp only at Hback_25 hback_25
  obtain ⟨Hback_25_0, Hback_25_1, Hback_25_2, Hback_25_3⟩ := Hback_25
  refine zw_if (fun c5 => ?_) (fun c5 => ?_)
  · refine zw_some ?_
    first | exact True.intro | ((try dsimp only); (repeat' apply And.intro) <;> first | with_reducible assumption | ((try clear hback_25); first | lia | grind [zu_at, zu_atL, zvn]))
  refine zw_zb0 (sf_X8_sample s_25_2 v2_0 v3_0 f6 f7 f8 f9 f10 f12 s_25_3 s_25_4 (by first | with_reducible assumption | exact ⟨by with_reducible assumption, by with_reducible assumption⟩ | ((try clear hback_25); first | lia | grind [zu_at, zu_atL, zvn])) (by first | with_reducible assumption | exact ⟨by with_reducible assumption, by with_reducible assumption⟩ | ((try clear hback_25); first | lia | grind [zu_at, zu_atL, zvn])) (by first | with_reducible assumption | exact ⟨by with_reducible assumption, by with_reducible assumption⟩ | ((try clear hback_25); first | lia | grind [zu_at, zu_atL, zvn]))) (fun o_27 ho_27 => ?_)
  obtain ⟨o_27_0, o_27_1, o_27_2⟩ := o_27
  try dsimp only at ho_27
  refine zw_zg32 14 (by decide) (by (try dsimp only); ((try clear hback_25); first | lia | grind [zu_at, zu_atL, zvn])) ?_
  refine zw_zn (fun x_32 ex_32 => ?_)
  exact hback_25 _ (by (try dsimp only); (repeat' apply And.intro) <;> first | with_reducible assumption | ((try clear hback_25); first | lia | grind [zu_at, zu_atL, zvn])) (by (try dsimp only); ((try clear hback_25); first | lia | grind [zu_at, zu_atL, zvn])) (by (try dsimp only); ((try clear hback_25); first | lia | grind [zu_at, zu_atL, zvn]))
set_option maxHeartbeats 4000000 in
set_option maxRecDepth 100000 in
theorem sf_X11_trial (p1 : Int32) (p2 : Int32) (v0_15 : Int32) (v1_0 : Int32) (v2_0 : Int32) (v3_2 : Int32) (v4_1 : Int32) (v4_2 : Int32) (f5 : Nat → Int32) (f6 : Nat → Int32) (f7 : Nat → Int32) (f8 : Nat → Int32) (f9 : Nat → Int32) (f10 : Nat → Int64) (f11 : Nat → Int32) (f13 : Nat → Int64) (f14 : Nat → Int64) (f15 : Nat → Int32) (f16 : Nat → Int32) (f18 : Nat → Int64) (f19 : Nat → Int64) (h_p2 : 0 ≤ p2 ∧ p2 ≤ 1) (h_v1_0 : 0 ≤ v1_0 ∧ v1_0 ≤ 4) (h_v2_0 : 0 ≤ v2_0 ∧ v2_0 ≤ 14) (h_v3_2 : 0 ≤ v3_2 ∧ v3_2 ≤ 1) (h_f5 : (∀ i : Nat, 0 ≤ f5 i ∧ f5 i ≤ 13)) : zw (fn_X11_trial p1 p2 v0_15 v1_0 v2_0 v3_2 v4_1 v4_2 f5 f6 f7 f8 f9 f10 f11 f13 f14 f15 f16 f18 f19) (fun r => True) := by
  unfold fn_X11_trial
  refine zw_zb0 (sf_X9_hasNumber p1 v2_0 (by first | with_reducible assumption | exact ⟨by with_reducible assumption, by with_reducible assumption⟩ | first | lia | grind [zu_at, zu_atL, zvn])) (fun o_1 ho_1 => ?_)
  obtain ⟨ho_1_0, ho_1_1, ho_1_2, ho_1_3, ho_1_4, ho_1_5⟩ := ho_1
  refine zw_if (fun c1 => ?_) (fun c1 => ?_)
  · refine zw_some ?_
    first | exact True.intro | ((try dsimp only); (repeat' apply And.intro) <;> first | with_reducible assumption | first | lia | grind [zu_at, zu_atL, zvn])
  refine zw_zb0 (sf_X11_handPasses v1_0 v2_0 v3_2 v4_1 v4_2 f5 f6 f7 f8 f9 f10 f11 f13 f14 f15 f16 (by first | with_reducible assumption | exact ⟨by with_reducible assumption, by with_reducible assumption⟩ | first | lia | grind [zu_at, zu_atL, zvn]) (by first | with_reducible assumption | exact ⟨by with_reducible assumption, by with_reducible assumption⟩ | first | lia | grind [zu_at, zu_atL, zvn]) (by first | with_reducible assumption | exact ⟨by with_reducible assumption, by with_reducible assumption⟩ | first | lia | grind [zu_at, zu_atL, zvn]) (by first | with_reducible assumption | exact ⟨by with_reducible assumption, by with_reducible assumption⟩ | first | lia | grind [zu_at, zu_atL, zvn])) (fun o_6 ho_6 => ?_)
  obtain ⟨o_6_0, o_6_1, o_6_2, o_6_3⟩ := o_6
  try dsimp only at ho_6
  obtain ⟨ho_6_0, ho_6_1, ho_6_2, ho_6_3, ho_6_4, ho_6_5, ho_6_6⟩ := ho_6
  refine zw_if (fun c2 => ?_) (fun c2 => ?_)
  · refine zw_some ?_
    first | exact True.intro | ((try dsimp only); (repeat' apply And.intro) <;> first | with_reducible assumption | first | lia | grind [zu_at, zu_atL, zvn])
  refine zw_zb0 (sf_X8_sample v0_15 v1_0 v2_0 f5 f6 f7 f8 f9 f11 f18 f19 (by first | with_reducible assumption | exact ⟨by with_reducible assumption, by with_reducible assumption⟩ | first | lia | grind [zu_at, zu_atL, zvn]) (by first | with_reducible assumption | exact ⟨by with_reducible assumption, by with_reducible assumption⟩ | first | lia | grind [zu_at, zu_atL, zvn]) (by first | with_reducible assumption | exact ⟨by with_reducible assumption, by with_reducible assumption⟩ | first | lia | grind [zu_at, zu_atL, zvn])) (fun o_11 ho_11 => ?_)
  obtain ⟨o_11_0, o_11_1, o_11_2⟩ := o_11
  try dsimp only at ho_11
  refine zw_if (fun c3 => ?_) (fun c3 => ?_)
  · refine zw_zg32 14 (by decide) (by (try dsimp only); first | lia | grind [zu_at, zu_atL, zvn]) ?_
    refine zw_some ?_
    first | exact True.intro | ((try dsimp only); (repeat' apply And.intro) <;> first | with_reducible assumption | first | lia | grind [zu_at, zu_atL, zvn])
  refine zw_zg32 14 (by decide) (by (try dsimp only); first | lia | grind [zu_at, zu_atL, zvn]) ?_
  refine zw_some ?_
  first | exact True.intro | ((try dsimp only); (repeat' apply And.intro) <;> first | with_reducible assumption | first | lia | grind [zu_at, zu_atL, zvn])
set_option maxHeartbeats 4000000 in
set_option maxRecDepth 100000 in
theorem sf_X11_seed (p1 : Int32) (v0_15 : Int32) (f1 : Nat → Int32) : zw (fn_X11_seed p1 v0_15 f1) (fun r => 0 ≤ r.1 ∧ r.1 ≤ 1) := by
  unfold fn_X11_seed
  refine zw_if (fun c1 => ?_) (fun c1 => ?_)
  · refine zw_some ?_
    first | exact True.intro | ((try dsimp only); (repeat' apply And.intro) <;> first | with_reducible assumption | first | lia | grind [zu_at, zu_atL, zvn])
  refine zw_zb0 (sf_X11_refuse 4 f1) (fun o_2 ho_2 => ?_)
  obtain ⟨o_2_0, o_2_1⟩ := o_2
  try dsimp only at ho_2
  obtain ⟨ho_2_0, ho_2_1⟩ := ho_2
  refine zw_some ?_
  first | exact True.intro | ((try dsimp only); (repeat' apply And.intro) <;> first | with_reducible assumption | first | lia | grind [zu_at, zu_atL, zvn])
set_option maxHeartbeats 4000000 in
set_option maxRecDepth 100000 in
theorem sf_X11_status (p1 : Int32) (f1 : Nat → Int32) : zw (fn_X11_status p1 f1) (fun r => True) := by
  unfold fn_X11_status
  refine zw_if (fun c1 => ?_) (fun c1 => ?_)
  · refine zw_some ?_
    first | exact True.intro | ((try dsimp only); (repeat' apply And.intro) <;> first | with_reducible assumption | first | lia | grind [zu_at, zu_atL, zvn])
  refine zw_if (fun c2 => ?_) (fun c2 => ?_)
  · refine zw_some ?_
    first | exact True.intro | ((try dsimp only); (repeat' apply And.intro) <;> first | with_reducible assumption | first | lia | grind [zu_at, zu_atL, zvn])
  refine zw_zg32 5 (by decide) (by (try dsimp only); first | lia | grind [zu_at, zu_atL, zvn]) ?_
  refine zw_some ?_
  first | exact True.intro | ((try dsimp only); (repeat' apply And.intro) <;> first | with_reducible assumption | first | lia | grind [zu_at, zu_atL, zvn])
set_option maxHeartbeats 4000000 in
set_option maxRecDepth 100000 in
theorem sf_X12_isIn (j0 : Int64) (j1 : Int64) (j2 : Int64) : zw (fn_X12_isIn j0 j1 j2) (fun r => 0 ≤ r ∧ r ≤ 1 ∧ (¬ r = 0 → 1 ≤ r ∧ j0 ≤ j2 ∧ j1 ≤ j0) ∧ (r = 1 → j0 ≤ j2 ∧ j1 ≤ j0) ∧ (¬ r = 1 → r ≤ 0)) := by
  unfold fn_X12_isIn
  refine zw_ifc (lg_cmp_lt _ _) (fun c1 => ?_) (fun c1 => ?_)
  · refine zw_some ?_
    first | exact True.intro | ((try dsimp only); (repeat' apply And.intro) <;> first | with_reducible assumption | first | lia | grind [zu_at, zu_atL, zvn])
  refine zw_ifc (lg_cmp_gt _ _) (fun c2 => ?_) (fun c2 => ?_)
  · refine zw_some ?_
    first | exact True.intro | ((try dsimp only); (repeat' apply And.intro) <;> first | with_reducible assumption | first | lia | grind [zu_at, zu_atL, zvn])
  refine zw_some ?_
  first | exact True.intro | ((try dsimp only); (repeat' apply And.intro) <;> first | with_reducible assumption | first | lia | grind [zu_at, zu_atL, zvn])
set_option maxHeartbeats 4000000 in
set_option maxRecDepth 100000 in
theorem sf_X12_amount (j0 : Int64) : zw (fn_X12_amount j0) (fun r => ((0 ≤ j0 ∧ 0 ≤ r ∧ j0 ≤ r ∧ r ≤ j0) ∨ (j0 ≤ (-1)))) := by
  unfold fn_X12_amount
  refine zw_ifc (lg_cmp_ge _ _) (fun c1 => ?_) (fun c1 => ?_)
  · refine zw_some ?_
    first | exact True.intro | ((try dsimp only); (repeat' apply And.intro) <;> first | with_reducible assumption | first | lia | grind [zu_at, zu_atL, zvn])
  refine zw_some ?_
  first | exact True.intro | ((try dsimp only); (repeat' apply And.intro) <;> first | with_reducible assumption | first | lia | grind [zu_at, zu_atL, zvn])
set_option maxHeartbeats 4000000 in
set_option maxRecDepth 100000 in
theorem sf_X12_greater (j0 : Int64) (j1 : Int64) : zw (fn_X12_greater j0 j1) (fun r => ((j1 ≤ r ∧ r ≤ j1 ∧ j0 ≤ j1) ∨ (j0 ≤ r ∧ r ≤ j0 ∧ j1 < j0))) := by
  unfold fn_X12_greater
  refine zw_ifc (lg_cmp_le _ _) (fun c1 => ?_) (fun c1 => ?_)
  · refine zw_some ?_
    first | exact True.intro | ((try dsimp only); (repeat' apply And.intro) <;> first | with_reducible assumption | first | lia | grind [zu_at, zu_atL, zvn])
  refine zw_some ?_
  first | exact True.intro | ((try dsimp only); (repeat' apply And.intro) <;> first | with_reducible assumption | first | lia | grind [zu_at, zu_atL, zvn])
set_option maxHeartbeats 4000000 in
set_option maxRecDepth 100000 in
theorem sf_X12_lesser (j0 : Int64) (j1 : Int64) : zw (fn_X12_lesser j0 j1) (fun r => ((j1 ≤ r ∧ r ≤ j1 ∧ j1 ≤ j0) ∨ (j0 ≤ r ∧ r ≤ j0 ∧ j0 < j1))) := by
  unfold fn_X12_lesser
  refine zw_ifc (lg_cmp_ge _ _) (fun c1 => ?_) (fun c1 => ?_)
  · refine zw_some ?_
    first | exact True.intro | ((try dsimp only); (repeat' apply And.intro) <;> first | with_reducible assumption | first | lia | grind [zu_at, zu_atL, zvn])
  refine zw_some ?_
  first | exact True.intro | ((try dsimp only); (repeat' apply And.intro) <;> first | with_reducible assumption | first | lia | grind [zu_at, zu_atL, zvn])
set_option maxHeartbeats 4000000 in
set_option maxRecDepth 100000 in
theorem sf_X12_floor (j0 : Int64) (j1 : Int64) (hx_0 : ¬ j1 = 0) : zw (fn_X12_floor j0 j1) (fun r => True) := by
  unfold fn_X12_floor
  refine zw_zd (by (try dsimp only); first | lia | grind [zu_at, zu_atL, zvn]) ?_
  refine zw_zd (by (try dsimp only); first | lia | grind [zu_at, zu_atL, zvn]) ?_
  refine zw_ifc (lg_cmp_eq _ _) (fun c1 => ?_) (fun c1 => ?_)
  · refine zw_some ?_
    first | exact True.intro | ((try dsimp only); (repeat' apply And.intro) <;> first | with_reducible assumption | first | lia | grind [zu_at, zu_atL, zvn])
  refine zw_ifc (lg_cmp_ge _ _) (fun c2 => ?_) (fun c2 => ?_)
  · refine zw_some ?_
    first | exact True.intro | ((try dsimp only); (repeat' apply And.intro) <;> first | with_reducible assumption | first | lia | grind [zu_at, zu_atL, zvn])
  refine zw_some ?_
  first | exact True.intro | ((try dsimp only); (repeat' apply And.intro) <;> first | with_reducible assumption | first | lia | grind [zu_at, zu_atL, zvn])
set_option maxHeartbeats 4000000 in
set_option maxRecDepth 100000 in
theorem sf_X12_refuses (p1 : Int32) (f1 : Nat → Int32) (h_p1 : 0 ≤ p1 ∧ p1 ≤ 4) : zw (fn_X12_refuses p1 f1) (fun r => (-1) ≤ r.1 ∧ r.1 ≤ (-1)) := by
  unfold fn_X12_refuses
  refine zw_zg32 5 (by decide) (by (try dsimp only); first | lia | grind [zu_at, zu_atL, zvn]) ?_
  refine zw_some ?_
  first | exact True.intro | ((try dsimp only); (repeat' apply And.intro) <;> first | with_reducible assumption | first | lia | grind [zu_at, zu_atL, zvn])
set_option maxHeartbeats 4000000 in
set_option maxRecDepth 100000 in
theorem sf_X12_isRefused (p1 : Int32) (f1 : Nat → Int32) (h_p1 : 0 ≤ p1 ∧ p1 ≤ 4) : zw (fn_X12_isRefused p1 f1) (fun r => 0 ≤ r.1 ∧ r.1 ≤ 1 ∧ r.1 ≤ 0) := by
  unfold fn_X12_isRefused
  refine zw_zg32 5 (by decide) (by (try dsimp only); first | lia | grind [zu_at, zu_atL, zvn]) ?_
  refine zw_some ?_
  first | exact True.intro | ((try dsimp only); (repeat' apply And.intro) <;> first | with_reducible assumption | first | lia | grind [zu_at, zu_atL, zvn])
set_option maxHeartbeats 4000000 in
set_option maxRecDepth 100000 in
theorem sf_X12_lays (p1 : Int32) (v0_1 : Int32) (f1 : Nat → Int32) (h_v0_1 : 0 ≤ v0_1 ∧ v0_1 ≤ 1196) (h_f1 : (∀ i : Nat, 0 ≤ f1 i ∧ f1 i ≤ 255)) : zw (fn_X12_lays p1 v0_1 f1) (fun r => 0 ≤ r.1 ∧ r.1 ≤ 1200 ∧ (∀ i : Nat, 0 ≤ r.2 i ∧ r.2 i ≤ 255) ∧ 4 ≤ r.1 ∧ r.1 ≤ v0_1 + 4 ∧ v0_1 + 4 ≤ r.1) := by
  unfold fn_X12_lays
  refine zw_zl32 (fun s_1 => (∀ i : Nat, 0 ≤ s_1.2 i ∧ s_1.2 i ≤ 255) ∧ 0 ≤ s_1.1 ∧ s_1.1 ≤ 4) (fun s_1 => 4 - s_1.1) (by (try dsimp only); (repeat' apply And.intro) <;> first | with_reducible assumption | first | lia | grind [zu_at, zu_atL, zvn, zand255]) (by (try dsimp only); first | lia | grind [zu_at, zu_atL, zvn, zand255]) (fun s_1 back_1 Hback_1 hback_1 => ?_)
  obtain ⟨s_1_0, s_1_1⟩ := s_1
  try dsimp only at Hback_1 hback_1
  obtain ⟨Hback_1_0, Hback_1_1, Hback_1_2⟩ := Hback_1
  refine zw_if (fun c1 => ?_) (fun c1 => ?_)
  · refine zw_some ?_
    first | exact True.intro | ((try dsimp only); (repeat' apply And.intro) <;> first | with_reducible assumption | first | lia | grind [zu_at, zu_atL, zvn, zand255])
  refine zw_zg32 1200 (by decide) (by (try dsimp only); first | lia | grind [zu_at, zu_atL, zvn, zand255]) ?_
  refine zw_zn1 ?_
  exact hback_1 _ (by (try dsimp only); (repeat' apply And.intro) <;> first | with_reducible assumption | first | lia | grind [zu_at, zu_atL, zvn, zand255]) (by (try dsimp only); first | lia | grind [zu_at, zu_atL, zvn, zand255]) (by (try dsimp only); first | lia | grind [zu_at, zu_atL, zvn, zand255])
set_option maxHeartbeats 4000000 in
set_option maxRecDepth 100000 in
theorem sf_X12_feed (p1 : Int32) (p2 : Int32) (p3 : Int32) (p4 : Int32) (p5 : Int32) (v0_1 : Int32) (f1 : Nat → Int32) (f2 : Nat → Int32) (h_v0_1 : 0 ≤ v0_1 ∧ v0_1 ≤ 1200) (h_f1 : (∀ i : Nat, 0 ≤ f1 i ∧ f1 i ≤ 255)) : zw (fn_X12_feed p1 p2 p3 p4 p5 v0_1 f1 f2) (fun r => 0 ≤ r.2.1 ∧ r.2.1 ≤ 1200 ∧ (∀ i : Nat, 0 ≤ r.2.2.1 i ∧ r.2.2.1 i ≤ 255) ∧ (-1) ≤ r.1 ∧ 20 ≤ r.2.1 ∧ r.1 ≤ 1200 ∧ r.1 ≤ r.2.1 ∧ v0_1 ≤ r.2.1 ∧ (r.1 = (-1) → 1181 ≤ r.2.1 ∧ 1181 ≤ v0_1 ∧ r.2.1 ≤ v0_1) ∧ (¬ r.1 = (-1) → 20 ≤ r.1 ∧ v0_1 ≤ 1180 ∧ r.2.1 ≤ r.1 ∧ v0_1 + 20 ≤ r.1)) := by
  unfold fn_X12_feed
  refine zw_if (fun c1 => ?_) (fun c1 => ?_)
  · refine zw_zb0 (sf_X12_lays p1 v0_1 f1 (by first | with_reducible assumption | exact ⟨by with_reducible assumption, by with_reducible assumption⟩ | first | lia | grind [zu_at, zu_atL, zvn]) (by first | with_reducible assumption | exact ⟨by with_reducible assumption, by with_reducible assumption⟩ | first | lia | grind [zu_at, zu_atL, zvn])) (fun o_2 ho_2 => ?_)
    obtain ⟨o_2_0, o_2_1⟩ := o_2
    try dsimp only at ho_2
    obtain ⟨ho_2_0, ho_2_1, ho_2_2, ho_2_3, ho_2_4, ho_2_5⟩ := ho_2
    refine zw_zb0 (sf_X12_lays p2 o_2_0 o_2_1 (by first | with_reducible assumption | exact ⟨by with_reducible assumption, by with_reducible assumption⟩ | first | lia | grind [zu_at, zu_atL, zvn]) (by first | with_reducible assumption | exact ⟨by with_reducible assumption, by with_reducible assumption⟩ | first | lia | grind [zu_at, zu_atL, zvn])) (fun o_6 ho_6 => ?_)
    obtain ⟨o_6_0, o_6_1⟩ := o_6
    try dsimp only at ho_6
    obtain ⟨ho_6_0, ho_6_1, ho_6_2, ho_6_3, ho_6_4, ho_6_5⟩ := ho_6
    refine zw_zb0 (sf_X12_lays p3 o_6_0 o_6_1 (by first | with_reducible assumption | exact ⟨by with_reducible assumption, by with_reducible assumption⟩ | first | lia | grind [zu_at, zu_atL, zvn]) (by first | with_reducible assumption | exact ⟨by with_reducible assumption, by with_reducible assumption⟩ | first | lia | grind [zu_at, zu_atL, zvn])) (fun o_10 ho_10 => ?_)
    obtain ⟨o_10_0, o_10_1⟩ := o_10
    try dsimp only at ho_10
    obtain ⟨ho_10_0, ho_10_1, ho_10_2, ho_10_3, ho_10_4, ho_10_5⟩ := ho_10
    refine zw_zb0 (sf_X12_lays p4 o_10_0 o_10_1 (by first | with_reducible assumption | exact ⟨by with_reducible assumption, by with_reducible assumption⟩ | first | lia | grind [zu_at, zu_atL, zvn]) (by first | with_reducible assumption | exact ⟨by with_reducible assumption, by with_reducible assumption⟩ | first | lia | grind [zu_at, zu_atL, zvn])) (fun o_14 ho_14 => ?_)
    obtain ⟨o_14_0, o_14_1⟩ := o_14
    try dsimp only at ho_14
    obtain ⟨ho_14_0, ho_14_1, ho_14_2, ho_14_3, ho_14_4, ho_14_5⟩ := ho_14
    refine zw_zb0 (sf_X12_lays p5 o_14_0 o_14_1 (by first | with_reducible assumption | exact ⟨by with_reducible assumption, by with_reducible assumption⟩ | first | lia | grind [zu_at, zu_atL, zvn]) (by first | with_reducible assumption | exact ⟨by with_reducible assumption, by with_reducible assumption⟩ | first | lia | grind [zu_at, zu_atL, zvn])) (fun o_18 ho_18 => ?_)
    obtain ⟨o_18_0, o_18_1⟩ := o_18
    try dsimp only at ho_18
    obtain ⟨ho_18_0, ho_18_1, ho_18_2, ho_18_3, ho_18_4, ho_18_5⟩ := ho_18
    refine zw_some ?_
    first | exact True.intro | ((try dsimp only); (repeat' apply And.intro) <;> first | with_reducible assumption | first | lia | grind [zu_at, zu_atL, zvn])
  refine zw_zb0 (sf_X12_refuses 0 f2 (by first | with_reducible assumption | exact ⟨by with_reducible assumption, by with_reducible assumption⟩ | first | lia | grind [zu_at, zu_atL, zvn])) (fun o_22 ho_22 => ?_)
  obtain ⟨o_22_0, o_22_1⟩ := o_22
  try dsimp only at ho_22
  obtain ⟨ho_22_0, ho_22_1⟩ := ho_22
  refine zw_some ?_
  first | exact True.intro | ((try dsimp only); (repeat' apply And.intro) <;> first | with_reducible assumption | first | lia | grind [zu_at, zu_atL, zvn])
set_option maxHeartbeats 4000000 in
set_option maxRecDepth 100000 in
theorem sf_X12_end (p1 : Int32) (v0_1 : Int32) (f1 : Nat → Int32) (h_v0_1 : 0 ≤ v0_1 ∧ v0_1 ≤ 1200) : zw (fn_X12_end p1 v0_1 f1) (fun r => 0 ≤ r.1 ∧ r.1 ≤ 1 ∧ 0 ≤ r.2.1 ∧ r.2.1 ≤ 1200 ∧ r.2.1 ≤ v0_1 ∧ (r.1 = 0 → v0_1 ≤ r.2.1 ∧ r.1 ≤ r.2.1) ∧ (¬ r.1 = 0 → 0 ≤ p1 ∧ 1 ≤ r.1 ∧ p1 ≤ 1200 ∧ p1 ≤ r.2.1 ∧ r.2.1 ≤ p1) ∧ (r.1 = 1 → 0 ≤ p1 ∧ p1 ≤ 1200 ∧ p1 ≤ r.2.1 ∧ r.2.1 ≤ p1) ∧ (¬ r.1 = 1 → r.1 ≤ 0 ∧ v0_1 ≤ r.2.1)) := by
  unfold fn_X12_end
  refine zw_if (fun c1 => ?_) (fun c1 => ?_)
  · refine zw_zb0 (sf_X12_isRefused 0 f1 (by first | with_reducible assumption | exact ⟨by with_reducible assumption, by with_reducible assumption⟩ | first | lia | grind [zu_at, zu_atL, zvn])) (fun o_2 ho_2 => ?_)
    obtain ⟨o_2_0, o_2_1⟩ := o_2
    try dsimp only at ho_2
    obtain ⟨ho_2_0, ho_2_1, ho_2_2⟩ := ho_2
    refine zw_some ?_
    first | exact True.intro | ((try dsimp only); (repeat' apply And.intro) <;> first | with_reducible assumption | first | lia | grind [zu_at, zu_atL, zvn])
  refine zw_if (fun c2 => ?_) (fun c2 => ?_)
  · refine zw_some ?_
    first | exact True.intro | ((try dsimp only); (repeat' apply And.intro) <;> first | with_reducible assumption | first | lia | grind [zu_at, zu_atL, zvn])
  refine zw_zb0 (sf_X12_isRefused 0 f1 (by first | with_reducible assumption | exact ⟨by with_reducible assumption, by with_reducible assumption⟩ | first | lia | grind [zu_at, zu_atL, zvn])) (fun o_7 ho_7 => ?_)
  obtain ⟨o_7_0, o_7_1⟩ := o_7
  try dsimp only at ho_7
  obtain ⟨ho_7_0, ho_7_1, ho_7_2⟩ := ho_7
  refine zw_some ?_
  first | exact True.intro | ((try dsimp only); (repeat' apply And.intro) <;> first | with_reducible assumption | first | lia | grind [zu_at, zu_atL, zvn])
set_option maxHeartbeats 4000000 in
set_option maxRecDepth 100000 in
theorem sf_X12_byteAt (p1 : Int32) (v0_5 : Int32) (f1 : Nat → Int32) (h_v0_5 : 0 ≤ v0_5 ∧ v0_5 ≤ 1200) (h_f1 : (∀ i : Nat, 0 ≤ f1 i ∧ f1 i ≤ 255)) : zw (fn_X12_byteAt p1 v0_5 f1) (fun r => (-1) ≤ r ∧ r ≤ 255 ∧ (r = (-1) → r < v0_5) ∧ (¬ r = (-1) → 0 ≤ p1 ∧ 0 ≤ r ∧ p1 ≤ 1199 ∧ 1 ≤ v0_5 ∧ p1 < v0_5 ∧ (f1 p1.toNatClampNeg) ≤ 255 ∧ 0 ≤ (f1 p1.toNatClampNeg) ∧ (f1 p1.toNatClampNeg) ≤ r ∧ r ≤ (f1 p1.toNatClampNeg))) := by
  unfold fn_X12_byteAt
  refine zw_if (fun c1 => ?_) (fun c1 => ?_)
  · refine zw_some ?_
    first | exact True.intro | ((try dsimp only); (repeat' apply And.intro) <;> first | with_reducible assumption | first | lia | grind [zu_at, zu_atL, zvn])
  refine zw_if (fun c2 => ?_) (fun c2 => ?_)
  · refine zw_some ?_
    first | exact True.intro | ((try dsimp only); (repeat' apply And.intro) <;> first | with_reducible assumption | first | lia | grind [zu_at, zu_atL, zvn])
  refine zw_zg32 1200 (by decide) (by (try dsimp only); first | lia | grind [zu_at, zu_atL, zvn]) ?_
  refine zw_some ?_
  first | exact True.intro | ((try dsimp only); (repeat' apply And.intro) <;> first | with_reducible assumption | first | lia | grind [zu_at, zu_atL, zvn])
set_option maxHeartbeats 4000000 in
set_option maxRecDepth 100000 in
theorem sf_X12_isSmall (p1 : Int32) (v0_5 : Int32) (f1 : Nat → Int32) (h_v0_5 : 0 ≤ v0_5 ∧ v0_5 ≤ 1200) (h_f1 : (∀ i : Nat, 0 ≤ f1 i ∧ f1 i ≤ 255)) : zw (fn_X12_isSmall p1 v0_5 f1) (fun r => 0 ≤ r ∧ r ≤ 1 ∧ r ≤ v0_5 ∧ (¬ r = 0 → 0 ≤ p1 ∧ 1 ≤ r ∧ p1 ≤ 1199 ∧ p1 < v0_5 ∧ (f1 p1.toNatClampNeg) ≤ 255 ∧ 97 ≤ (f1 p1.toNatClampNeg)) ∧ (r = 1 → 0 ≤ p1 ∧ p1 ≤ 1199 ∧ 1 ≤ v0_5 ∧ p1 < v0_5 ∧ (f1 p1.toNatClampNeg) ≤ 255 ∧ 97 ≤ (f1 p1.toNatClampNeg)) ∧ (¬ r = 1 → r ≤ 0)) := by
  unfold fn_X12_isSmall
  refine zw_zb0 (sf_X12_byteAt p1 v0_5 f1 (by first | with_reducible assumption | exact ⟨by with_reducible assumption, by with_reducible assumption⟩ | first | lia | grind [zu_at, zu_atL, zvn]) (by first | with_reducible assumption | exact ⟨by with_reducible assumption, by with_reducible assumption⟩ | first | lia | grind [zu_at, zu_atL, zvn])) (fun o_1 ho_1 => ?_)
  obtain ⟨ho_1_0, ho_1_1, ho_1_2, ho_1_3⟩ := ho_1
  refine zw_if (fun c1 => ?_) (fun c1 => ?_)
  · refine zw_some ?_
    first | exact True.intro | ((try dsimp only); (repeat' apply And.intro) <;> first | with_reducible assumption | first | lia | grind [zu_at, zu_atL, zvn])
  refine zw_zb0 (sf_X12_byteAt p1 v0_5 f1 (by first | with_reducible assumption | exact ⟨by with_reducible assumption, by with_reducible assumption⟩ | first | lia | grind [zu_at, zu_atL, zvn]) (by first | with_reducible assumption | exact ⟨by with_reducible assumption, by with_reducible assumption⟩ | first | lia | grind [zu_at, zu_atL, zvn])) (fun o_6 ho_6 => ?_)
  obtain ⟨ho_6_0, ho_6_1, ho_6_2, ho_6_3⟩ := ho_6
  refine zw_if (fun c2 => ?_) (fun c2 => ?_)
  · refine zw_some ?_
    first | exact True.intro | ((try dsimp only); (repeat' apply And.intro) <;> first | with_reducible assumption | first | lia | grind [zu_at, zu_atL, zvn])
  refine zw_some ?_
  first | exact True.intro | ((try dsimp only); (repeat' apply And.intro) <;> first | with_reducible assumption | first | lia | grind [zu_at, zu_atL, zvn])
set_option maxHeartbeats 4000000 in
set_option maxRecDepth 100000 in
theorem sf_X12_isDigit (p1 : Int32) (v0_5 : Int32) (f1 : Nat → Int32) (h_v0_5 : 0 ≤ v0_5 ∧ v0_5 ≤ 1200) (h_f1 : (∀ i : Nat, 0 ≤ f1 i ∧ f1 i ≤ 255)) : zw (fn_X12_isDigit p1 v0_5 f1) (fun r => 0 ≤ r ∧ r ≤ 1 ∧ r ≤ v0_5 ∧ (¬ r = 0 → 0 ≤ p1 ∧ 1 ≤ r ∧ p1 ≤ 1199 ∧ p1 < v0_5 ∧ (f1 p1.toNatClampNeg) ≤ 255 ∧ 48 ≤ (f1 p1.toNatClampNeg)) ∧ (r = 1 → 0 ≤ p1 ∧ p1 ≤ 1199 ∧ 1 ≤ v0_5 ∧ p1 < v0_5 ∧ (f1 p1.toNatClampNeg) ≤ 255 ∧ 48 ≤ (f1 p1.toNatClampNeg)) ∧ (¬ r = 1 → r ≤ 0)) := by
  unfold fn_X12_isDigit
  refine zw_zb0 (sf_X12_byteAt p1 v0_5 f1 (by first | with_reducible assumption | exact ⟨by with_reducible assumption, by with_reducible assumption⟩ | first | lia | grind [zu_at, zu_atL, zvn]) (by first | with_reducible assumption | exact ⟨by with_reducible assumption, by with_reducible assumption⟩ | first | lia | grind [zu_at, zu_atL, zvn])) (fun o_1 ho_1 => ?_)
  obtain ⟨ho_1_0, ho_1_1, ho_1_2, ho_1_3⟩ := ho_1
  refine zw_if (fun c1 => ?_) (fun c1 => ?_)
  · refine zw_some ?_
    first | exact True.intro | ((try dsimp only); (repeat' apply And.intro) <;> first | with_reducible assumption | first | lia | grind [zu_at, zu_atL, zvn])
  refine zw_zb0 (sf_X12_byteAt p1 v0_5 f1 (by first | with_reducible assumption | exact ⟨by with_reducible assumption, by with_reducible assumption⟩ | first | lia | grind [zu_at, zu_atL, zvn]) (by first | with_reducible assumption | exact ⟨by with_reducible assumption, by with_reducible assumption⟩ | first | lia | grind [zu_at, zu_atL, zvn])) (fun o_6 ho_6 => ?_)
  obtain ⟨ho_6_0, ho_6_1, ho_6_2, ho_6_3⟩ := ho_6
  refine zw_if (fun c2 => ?_) (fun c2 => ?_)
  · refine zw_some ?_
    first | exact True.intro | ((try dsimp only); (repeat' apply And.intro) <;> first | with_reducible assumption | first | lia | grind [zu_at, zu_atL, zvn])
  refine zw_some ?_
  first | exact True.intro | ((try dsimp only); (repeat' apply And.intro) <;> first | with_reducible assumption | first | lia | grind [zu_at, zu_atL, zvn])
set_option maxHeartbeats 4000000 in
set_option maxRecDepth 100000 in
theorem sf_X12_here (v0_5 : Int32) (v0_6 : Int32) (f1 : Nat → Int32) (h_v0_5 : 0 ≤ v0_5 ∧ v0_5 ≤ 1200) (h_v0_6 : 0 ≤ v0_6 ∧ v0_6 ≤ 1200) (h_f1 : (∀ i : Nat, 0 ≤ f1 i ∧ f1 i ≤ 255)) : zw (fn_X12_here v0_5 v0_6 f1) (fun r => 0 ≤ r.2 ∧ r.2 ≤ 1200 ∧ (-1) ≤ r.1 ∧ r.1 ≤ 255 ∧ v0_6 ≤ r.2 ∧ (r.1 = (-1) → r.1 < r.2 ∧ r.1 < v0_5 ∧ r.1 < v0_6) ∧ (¬ r.1 = (-1) → 0 ≤ r.1 ∧ r.2 ≤ 1199 ∧ 1 ≤ v0_5 ∧ r.2 < v0_5)) := by
  unfold fn_X12_here
  refine zw_zl32 (fun s_1 => 0 ≤ s_1 ∧ s_1 ≤ 1200 ∧ v0_6 ≤ s_1) (fun s_1 => 1200 - s_1) (by (try dsimp only); (repeat' apply And.intro) <;> first | with_reducible assumption | first | lia | grind [zu_at, zu_atL, zvn]) (by (try dsimp only); first | lia | grind [zu_at, zu_atL, zvn]) (fun s_1 back_1 Hback_1 hback_1 => ?_)
  obtain ⟨Hback_1_0, Hback_1_1, Hback_1_2⟩ := Hback_1
  refine zw_zb0 (sf_X12_byteAt s_1 v0_5 f1 (by first | with_reducible assumption | exact ⟨by with_reducible assumption, by with_reducible assumption⟩ | ((try clear hback_1); first | lia | grind [zu_at, zu_atL, zvn])) (by first | with_reducible assumption | exact ⟨by with_reducible assumption, by with_reducible assumption⟩ | ((try clear hback_1); first | lia | grind [zu_at, zu_atL, zvn]))) (fun o_2 ho_2 => ?_)
  obtain ⟨ho_2_0, ho_2_1, ho_2_2, ho_2_3⟩ := ho_2
  refine zw_if (fun c1 => ?_) (fun c1 => ?_)
  · exact hback_1 _ (by (try dsimp only); (repeat' apply And.intro) <;> first | with_reducible assumption | ((try clear hback_1); first | lia | grind [zu_at, zu_atL, zvn])) (by (try dsimp only); ((try clear hback_1); first | lia | grind [zu_at, zu_atL, zvn])) (by (try dsimp only); ((try clear hback_1); first | lia | grind [zu_at, zu_atL, zvn]))
  refine zw_zb0 (sf_X12_byteAt s_1 v0_5 f1 (by first | with_reducible assumption | exact ⟨by with_reducible assumption, by with_reducible assumption⟩ | ((try clear hback_1); first | lia | grind [zu_at, zu_atL, zvn])) (by first | with_reducible assumption | exact ⟨by with_reducible assumption, by with_reducible assumption⟩ | ((try clear hback_1); first | lia | grind [zu_at, zu_atL, zvn]))) (fun o_7 ho_7 => ?_)
  obtain ⟨ho_7_0, ho_7_1, ho_7_2, ho_7_3⟩ := ho_7
  refine zw_if (fun c2 => ?_) (fun c2 => ?_)
  · exact hback_1 _ (by (try dsimp only); (repeat' apply And.intro) <;> first | with_reducible assumption | ((try clear hback_1); first | lia | grind [zu_at, zu_atL, zvn])) (by (try dsimp only); ((try clear hback_1); first | lia | grind [zu_at, zu_atL, zvn])) (by (try dsimp only); ((try clear hback_1); first | lia | grind [zu_at, zu_atL, zvn]))
  refine zw_zb0 (sf_X12_byteAt s_1 v0_5 f1 (by first | with_reducible assumption | exact ⟨by with_reducible assumption, by with_reducible assumption⟩ | ((try clear hback_1); first | lia | grind [zu_at, zu_atL, zvn])) (by first | with_reducible assumption | exact ⟨by with_reducible assumption, by with_reducible assumption⟩ | ((try clear hback_1); first | lia | grind [zu_at, zu_atL, zvn]))) (fun o_12 ho_12 => ?_)
  obtain ⟨ho_12_0, ho_12_1, ho_12_2, ho_12_3⟩ := ho_12
  refine zw_some ?_
  first | exact True.intro | ((try dsimp only); (repeat' apply And.intro) <;> first | with_reducible assumption | ((try clear hback_1); first | lia | grind [zu_at, zu_atL, zvn]))
set_option maxHeartbeats 4000000 in
set_option maxRecDepth 100000 in
theorem sf_X12_faults (p1 : Int32) (p2 : Int32) (v0_8 : Int32) (v0_9 : Int32) (h_p1 : 1 ≤ p1 ∧ p1 ≤ 4) (h_v0_8 : 0 ≤ v0_8 ∧ v0_8 ≤ 4) : zw (fn_X12_faults p1 p2 v0_8 v0_9) (fun r => 0 ≤ r.1 ∧ r.1 ≤ 4 ∧ 1 ≤ r.1 ∧ v0_8 ≤ r.1) := by
  unfold fn_X12_faults
  refine zw_if (fun c1 => ?_) (fun c1 => ?_)
  · refine zw_some ?_
    first | exact True.intro | ((try dsimp only); (repeat' apply And.intro) <;> first | with_reducible assumption | first | lia | grind [zu_at, zu_atL, zvn])
  refine zw_some ?_
  first | exact True.intro | ((try dsimp only); (repeat' apply And.intro) <;> first | with_reducible assumption | first | lia | grind [zu_at, zu_atL, zvn])
set_option maxHeartbeats 4000000 in
set_option maxRecDepth 100000 in
theorem sf_X12_goesWell (v0_8 : Int32) (h_v0_8 : 0 ≤ v0_8 ∧ v0_8 ≤ 4) : zw (fn_X12_goesWell v0_8) (fun r => 0 ≤ r ∧ r ≤ 1 ∧ (r = 1 → v0_8 ≤ 0 ∧ v0_8 < r) ∧ (¬ r = 1 → r ≤ 0 ∧ 1 ≤ v0_8) ∧ (r = 0 → 1 ≤ v0_8 ∧ r < v0_8) ∧ (¬ r = 0 → 1 ≤ r ∧ v0_8 ≤ 0)) := by
  unfold fn_X12_goesWell
  refine zw_if (fun c1 => ?_) (fun c1 => ?_)
  · refine zw_some ?_
    first | exact True.intro | ((try dsimp only); (repeat' apply And.intro) <;> first | with_reducible assumption | first | lia | grind [zu_at, zu_atL, zvn])
  refine zw_some ?_
  first | exact True.intro | ((try dsimp only); (repeat' apply And.intro) <;> first | with_reducible assumption | first | lia | grind [zu_at, zu_atL, zvn])
set_option maxHeartbeats 4000000 in
set_option maxRecDepth 100000 in
theorem sf_X12_mark (p1 : Int32) (v0_5 : Int32) (v0_6 : Int32) (v0_8 : Int32) (v0_9 : Int32) (f1 : Nat → Int32) (h_p1 : 0 ≤ p1 ∧ p1 ≤ 255) (h_v0_5 : 0 ≤ v0_5 ∧ v0_5 ≤ 1200) (h_v0_6 : 0 ≤ v0_6 ∧ v0_6 ≤ 1200) (h_v0_8 : 0 ≤ v0_8 ∧ v0_8 ≤ 4) (h_f1 : (∀ i : Nat, 0 ≤ f1 i ∧ f1 i ≤ 255)) : zw (fn_X12_mark p1 v0_5 v0_6 v0_8 v0_9 f1) (fun r => 0 ≤ r.1 ∧ r.1 ≤ 1200 ∧ 0 ≤ r.2.1 ∧ r.2.1 ≤ 4 ∧ v0_6 ≤ r.1 ∧ v0_8 ≤ r.2.1) := by
  unfold fn_X12_mark
  refine zw_zb0 (sf_X12_goesWell v0_8 (by first | with_reducible assumption | exact ⟨by with_reducible assumption, by with_reducible assumption⟩ | first | lia | grind [zu_at, zu_atL, zvn])) (fun o_1 ho_1 => ?_)
  obtain ⟨ho_1_0, ho_1_1, ho_1_2, ho_1_3, ho_1_4, ho_1_5⟩ := ho_1
  refine zw_if (fun c1 => ?_) (fun c1 => ?_)
  · refine zw_some ?_
    first | exact True.intro | ((try dsimp only); (repeat' apply And.intro) <;> first | with_reducible assumption | first | lia | grind [zu_at, zu_atL, zvn])
  refine zw_zb0 (sf_X12_here v0_5 v0_6 f1 (by first | with_reducible assumption | exact ⟨by with_reducible assumption, by with_reducible assumption⟩ | first | lia | grind [zu_at, zu_atL, zvn]) (by first | with_reducible assumption | exact ⟨by with_reducible assumption, by with_reducible assumption⟩ | first | lia | grind [zu_at, zu_atL, zvn]) (by first | with_reducible assumption | exact ⟨by with_reducible assumption, by with_reducible assumption⟩ | first | lia | grind [zu_at, zu_atL, zvn])) (fun o_6 ho_6 => ?_)
  obtain ⟨o_6_0, o_6_1⟩ := o_6
  try dsimp only at ho_6
  obtain ⟨ho_6_0, ho_6_1, ho_6_2, ho_6_3, ho_6_4, ho_6_5, ho_6_6⟩ := ho_6
  refine zw_if (fun c2 => ?_) (fun c2 => ?_)
  · refine zw_some ?_
    first | exact True.intro | ((try dsimp only); (repeat' apply And.intro) <;> first | with_reducible assumption | first | lia | grind [zu_at, zu_atL, zvn])
  refine zw_zb0 (sf_X12_faults 1 o_6_1 v0_8 v0_9 (by first | with_reducible assumption | exact ⟨by with_reducible assumption, by with_reducible assumption⟩ | first | lia | grind [zu_at, zu_atL, zvn]) (by first | with_reducible assumption | exact ⟨by with_reducible assumption, by with_reducible assumption⟩ | first | lia | grind [zu_at, zu_atL, zvn])) (fun o_11 ho_11 => ?_)
  obtain ⟨o_11_0, o_11_1⟩ := o_11
  try dsimp only at ho_11
  obtain ⟨ho_11_0, ho_11_1, ho_11_2, ho_11_3⟩ := ho_11
  refine zw_some ?_
  first | exact True.intro | ((try dsimp only); (repeat' apply And.intro) <;> first | with_reducible assumption | first | lia | grind [zu_at, zu_atL, zvn])
noncomputable def zTab (k : Nat) : Int32 := ([6, 15, 18, 13, 1, 20, 0, 19, 20, 5, 16, 0, 13, 15, 19, 20, 0, 3, 15, 19, 20, 0, 3, 1, 19, 20, 0, 9, 14, 16, 21, 20, 0, 12, 5, 20, 0, 13, 9, 14, 0, 13, 1, 24, 0, 6, 9, 24, 5, 4, 0, 7, 18, 15, 21, 16, 0, 1, 14, 19, 23, 5, 18, 0, 23, 9, 20, 8, 9, 14, 0] : List Int32).getD k 0
noncomputable def zPair (n k : Int32) : Prop := n = 0 ∧ k = 0 ∨ n = 1 ∧ k = 7 ∨ n = 2 ∧ k = 12 ∨ n = 3 ∧ k = 17 ∨ n = 4 ∧ k = 22 ∨ n = 5 ∧ k = 27 ∨ n = 6 ∧ k = 33 ∨ n = 7 ∧ k = 37 ∨ n = 8 ∧ k = 41 ∨ n = 9 ∧ k = 45 ∨ n = 10 ∧ k = 51 ∨ n = 11 ∧ k = 57 ∨ n = 12 ∧ k = 64 ∨ n = 13 ∧ k = 71
theorem zTab_ne {f1 : Nat → Int32} (hT : ∀ k : Nat, k < 71 → f1 k = zTab k) (c : Int32) (h : decide (c.toNatClampNeg < 71 ∧ ¬ zTab c.toNatClampNeg = 0) = true) : ¬ f1 c.toNatClampNeg = 0 := by
  have h := of_decide_eq_true h
  rw [hT _ h.1]; exact h.2
theorem zTab_eq {f1 : Nat → Int32} (hT : ∀ k : Nat, k < 71 → f1 k = zTab k) (c : Int32) (h : decide (c.toNatClampNeg < 71 ∧ zTab c.toNatClampNeg = 0) = true) : f1 c.toNatClampNeg = 0 := by
  have h := of_decide_eq_true h
  rw [hT _ h.1]; exact h.2
theorem zTabW (f1 : Nat → Int32) (hT : ∀ k : Nat, k < 71 → f1 k = zTab k) (n k : Int32) (hp : zPair n k) (hn : n ≤ 12) : ∃ e : Int32, 0 ≤ k ∧ k ≤ e ∧ e ≤ 70 ∧ f1 e.toNatClampNeg = 0 ∧ (∀ x : Int32, k ≤ x → x < e → ¬ f1 x.toNatClampNeg = 0) ∧ zPair (n + 1) (e + 1) := by
  unfold zPair at hp
  rcases hp with ⟨rfl, rfl⟩ | ⟨rfl, rfl⟩ | ⟨rfl, rfl⟩ | ⟨rfl, rfl⟩ | ⟨rfl, rfl⟩ | ⟨rfl, rfl⟩ | ⟨rfl, rfl⟩ | ⟨rfl, rfl⟩ | ⟨rfl, rfl⟩ | ⟨rfl, rfl⟩ | ⟨rfl, rfl⟩ | ⟨rfl, rfl⟩ | ⟨rfl, rfl⟩ | ⟨rfl, rfl⟩
  · refine ⟨6, by decide, by decide, by decide, zTab_eq hT 6 (by decide +kernel), fun x h1 h2 => ?_, ?_⟩
    · rcases (show x = 0 ∨ x = 1 ∨ x = 2 ∨ x = 3 ∨ x = 4 ∨ x = 5 by lia) with rfl | rfl | rfl | rfl | rfl | rfl
      · exact zTab_ne hT 0 (by decide +kernel)
      · exact zTab_ne hT 1 (by decide +kernel)
      · exact zTab_ne hT 2 (by decide +kernel)
      · exact zTab_ne hT 3 (by decide +kernel)
      · exact zTab_ne hT 4 (by decide +kernel)
      · exact zTab_ne hT 5 (by decide +kernel)
    · unfold zPair; exact Or.inr (Or.inl ⟨by decide, by decide⟩)
  · refine ⟨11, by decide, by decide, by decide, zTab_eq hT 11 (by decide +kernel), fun x h1 h2 => ?_, ?_⟩
    · rcases (show x = 7 ∨ x = 8 ∨ x = 9 ∨ x = 10 by lia) with rfl | rfl | rfl | rfl
      · exact zTab_ne hT 7 (by decide +kernel)
      · exact zTab_ne hT 8 (by decide +kernel)
      · exact zTab_ne hT 9 (by decide +kernel)
      · exact zTab_ne hT 10 (by decide +kernel)
    · unfold zPair; exact Or.inr (Or.inr (Or.inl ⟨by decide, by decide⟩))
  · refine ⟨16, by decide, by decide, by decide, zTab_eq hT 16 (by decide +kernel), fun x h1 h2 => ?_, ?_⟩
    · rcases (show x = 12 ∨ x = 13 ∨ x = 14 ∨ x = 15 by lia) with rfl | rfl | rfl | rfl
      · exact zTab_ne hT 12 (by decide +kernel)
      · exact zTab_ne hT 13 (by decide +kernel)
      · exact zTab_ne hT 14 (by decide +kernel)
      · exact zTab_ne hT 15 (by decide +kernel)
    · unfold zPair; exact Or.inr (Or.inr (Or.inr (Or.inl ⟨by decide, by decide⟩)))
  · refine ⟨21, by decide, by decide, by decide, zTab_eq hT 21 (by decide +kernel), fun x h1 h2 => ?_, ?_⟩
    · rcases (show x = 17 ∨ x = 18 ∨ x = 19 ∨ x = 20 by lia) with rfl | rfl | rfl | rfl
      · exact zTab_ne hT 17 (by decide +kernel)
      · exact zTab_ne hT 18 (by decide +kernel)
      · exact zTab_ne hT 19 (by decide +kernel)
      · exact zTab_ne hT 20 (by decide +kernel)
    · unfold zPair; exact Or.inr (Or.inr (Or.inr (Or.inr (Or.inl ⟨by decide, by decide⟩))))
  · refine ⟨26, by decide, by decide, by decide, zTab_eq hT 26 (by decide +kernel), fun x h1 h2 => ?_, ?_⟩
    · rcases (show x = 22 ∨ x = 23 ∨ x = 24 ∨ x = 25 by lia) with rfl | rfl | rfl | rfl
      · exact zTab_ne hT 22 (by decide +kernel)
      · exact zTab_ne hT 23 (by decide +kernel)
      · exact zTab_ne hT 24 (by decide +kernel)
      · exact zTab_ne hT 25 (by decide +kernel)
    · unfold zPair; exact Or.inr (Or.inr (Or.inr (Or.inr (Or.inr (Or.inl ⟨by decide, by decide⟩)))))
  · refine ⟨32, by decide, by decide, by decide, zTab_eq hT 32 (by decide +kernel), fun x h1 h2 => ?_, ?_⟩
    · rcases (show x = 27 ∨ x = 28 ∨ x = 29 ∨ x = 30 ∨ x = 31 by lia) with rfl | rfl | rfl | rfl | rfl
      · exact zTab_ne hT 27 (by decide +kernel)
      · exact zTab_ne hT 28 (by decide +kernel)
      · exact zTab_ne hT 29 (by decide +kernel)
      · exact zTab_ne hT 30 (by decide +kernel)
      · exact zTab_ne hT 31 (by decide +kernel)
    · unfold zPair; exact Or.inr (Or.inr (Or.inr (Or.inr (Or.inr (Or.inr (Or.inl ⟨by decide, by decide⟩))))))
  · refine ⟨36, by decide, by decide, by decide, zTab_eq hT 36 (by decide +kernel), fun x h1 h2 => ?_, ?_⟩
    · rcases (show x = 33 ∨ x = 34 ∨ x = 35 by lia) with rfl | rfl | rfl
      · exact zTab_ne hT 33 (by decide +kernel)
      · exact zTab_ne hT 34 (by decide +kernel)
      · exact zTab_ne hT 35 (by decide +kernel)
    · unfold zPair; exact Or.inr (Or.inr (Or.inr (Or.inr (Or.inr (Or.inr (Or.inr (Or.inl ⟨by decide, by decide⟩)))))))
  · refine ⟨40, by decide, by decide, by decide, zTab_eq hT 40 (by decide +kernel), fun x h1 h2 => ?_, ?_⟩
    · rcases (show x = 37 ∨ x = 38 ∨ x = 39 by lia) with rfl | rfl | rfl
      · exact zTab_ne hT 37 (by decide +kernel)
      · exact zTab_ne hT 38 (by decide +kernel)
      · exact zTab_ne hT 39 (by decide +kernel)
    · unfold zPair; exact Or.inr (Or.inr (Or.inr (Or.inr (Or.inr (Or.inr (Or.inr (Or.inr (Or.inl ⟨by decide, by decide⟩))))))))
  · refine ⟨44, by decide, by decide, by decide, zTab_eq hT 44 (by decide +kernel), fun x h1 h2 => ?_, ?_⟩
    · rcases (show x = 41 ∨ x = 42 ∨ x = 43 by lia) with rfl | rfl | rfl
      · exact zTab_ne hT 41 (by decide +kernel)
      · exact zTab_ne hT 42 (by decide +kernel)
      · exact zTab_ne hT 43 (by decide +kernel)
    · unfold zPair; exact Or.inr (Or.inr (Or.inr (Or.inr (Or.inr (Or.inr (Or.inr (Or.inr (Or.inr (Or.inl ⟨by decide, by decide⟩)))))))))
  · refine ⟨50, by decide, by decide, by decide, zTab_eq hT 50 (by decide +kernel), fun x h1 h2 => ?_, ?_⟩
    · rcases (show x = 45 ∨ x = 46 ∨ x = 47 ∨ x = 48 ∨ x = 49 by lia) with rfl | rfl | rfl | rfl | rfl
      · exact zTab_ne hT 45 (by decide +kernel)
      · exact zTab_ne hT 46 (by decide +kernel)
      · exact zTab_ne hT 47 (by decide +kernel)
      · exact zTab_ne hT 48 (by decide +kernel)
      · exact zTab_ne hT 49 (by decide +kernel)
    · unfold zPair; exact Or.inr (Or.inr (Or.inr (Or.inr (Or.inr (Or.inr (Or.inr (Or.inr (Or.inr (Or.inr (Or.inl ⟨by decide, by decide⟩))))))))))
  · refine ⟨56, by decide, by decide, by decide, zTab_eq hT 56 (by decide +kernel), fun x h1 h2 => ?_, ?_⟩
    · rcases (show x = 51 ∨ x = 52 ∨ x = 53 ∨ x = 54 ∨ x = 55 by lia) with rfl | rfl | rfl | rfl | rfl
      · exact zTab_ne hT 51 (by decide +kernel)
      · exact zTab_ne hT 52 (by decide +kernel)
      · exact zTab_ne hT 53 (by decide +kernel)
      · exact zTab_ne hT 54 (by decide +kernel)
      · exact zTab_ne hT 55 (by decide +kernel)
    · unfold zPair; exact Or.inr (Or.inr (Or.inr (Or.inr (Or.inr (Or.inr (Or.inr (Or.inr (Or.inr (Or.inr (Or.inr (Or.inl ⟨by decide, by decide⟩)))))))))))
  · refine ⟨63, by decide, by decide, by decide, zTab_eq hT 63 (by decide +kernel), fun x h1 h2 => ?_, ?_⟩
    · rcases (show x = 57 ∨ x = 58 ∨ x = 59 ∨ x = 60 ∨ x = 61 ∨ x = 62 by lia) with rfl | rfl | rfl | rfl | rfl | rfl
      · exact zTab_ne hT 57 (by decide +kernel)
      · exact zTab_ne hT 58 (by decide +kernel)
      · exact zTab_ne hT 59 (by decide +kernel)
      · exact zTab_ne hT 60 (by decide +kernel)
      · exact zTab_ne hT 61 (by decide +kernel)
      · exact zTab_ne hT 62 (by decide +kernel)
    · unfold zPair; exact Or.inr (Or.inr (Or.inr (Or.inr (Or.inr (Or.inr (Or.inr (Or.inr (Or.inr (Or.inr (Or.inr (Or.inr (Or.inl ⟨by decide, by decide⟩))))))))))))
  · refine ⟨70, by decide, by decide, by decide, zTab_eq hT 70 (by decide +kernel), fun x h1 h2 => ?_, ?_⟩
    · rcases (show x = 64 ∨ x = 65 ∨ x = 66 ∨ x = 67 ∨ x = 68 ∨ x = 69 by lia) with rfl | rfl | rfl | rfl | rfl | rfl
      · exact zTab_ne hT 64 (by decide +kernel)
      · exact zTab_ne hT 65 (by decide +kernel)
      · exact zTab_ne hT 66 (by decide +kernel)
      · exact zTab_ne hT 67 (by decide +kernel)
      · exact zTab_ne hT 68 (by decide +kernel)
      · exact zTab_ne hT 69 (by decide +kernel)
    · unfold zPair; exact Or.inr (Or.inr (Or.inr (Or.inr (Or.inr (Or.inr (Or.inr (Or.inr (Or.inr (Or.inr (Or.inr (Or.inr (Or.inr (⟨by decide, by decide⟩)))))))))))))
  · exact absurd hn (by decide)
set_option maxHeartbeats 4000000 in
theorem sf_X12_own (v0_6 : Int32) (v0_7 : Int32) (f1 : Nat → Int32) (f2 : Nat → Int32) (h_v0_6 : 0 ≤ v0_6 ∧ v0_6 ≤ 1200) (h_v0_7 : 0 ≤ v0_7 ∧ v0_7 ≤ 1200) (hf2 : True) (hT : (∀ k : Nat, k < 71 → f1 k = zTab k)) : zw (fn_X12_own v0_6 v0_7 f1 f2) (fun r => (-1) ≤ r ∧ r ≤ 12) := by
  unfold fn_X12_own
  refine zw_zl32 (fun s_1 => zPair s_1.2 s_1.1 ∧ 0 ≤ s_1.2 ∧ s_1.2 ≤ 13) (fun s_1 => 13 - s_1.2) ⟨Or.inl ⟨rfl, rfl⟩, by decide, by decide⟩ (by decide) (fun s_1 back_1 H1 h1 => ?_)
  obtain ⟨kk, nn⟩ := s_1
  dsimp only at H1 h1 ⊢
  obtain ⟨hpair, hn0, hn1⟩ := H1
  refine zw_if (fun c1 => ?_) (fun c1 => ?_)
  · refine zw_some ?_
    decide
  obtain ⟨e, he0, he1, he2, he3, he4, he5⟩ := zTabW f1 hT nn kk hpair (by lia)
  clear hpair hT
  have J : zw (zl (fun (s_8 : Int32) back_8 => (zg s_8 71 (if (f1 s_8.toNatClampNeg) = 0 then (back_1 ((s_8 + 1), (nn + 1))) else (back_8 (s_8 + 1))))) 100000 kk) (fun r => (-1) ≤ r ∧ r ≤ 12) := by
    refine zw_zl32 (fun s_8 => kk ≤ s_8 ∧ s_8 ≤ e) (fun s_8 => e - s_8) ⟨by lia, he1⟩ (by lia) (fun s_8 back_8 H8 h8 => ?_)
    obtain ⟨H8a, H8b⟩ := H8
    refine zw_zg32 71 (by decide) ⟨by lia, by lia⟩ ?_
    refine zw_if (fun c2 => ?_) (fun c2 => ?_)
    · have hq : s_8 = e := by
        by_cases q : s_8 < e
        · exact absurd c2 (he4 s_8 H8a q)
        · lia
      rw [hq]
      exact h1 _ ⟨he5, by dsimp only; lia, by dsimp only; lia⟩ (by dsimp only; lia) (by dsimp only; lia)
    · have hq : ¬ s_8 = e := by intro hq; rw [hq] at c2; exact c2 he3
      exact h8 _ ⟨by lia, by lia⟩ (by lia) (by lia)
  refine zw_zl32 (fun s_3 => 0 ≤ s_3 ∧ kk + s_3 ≤ e ∧ s_3 ≤ 70) (fun s_3 => e - (kk + s_3)) ⟨by decide, by lia, by decide⟩ (by lia) (fun s_3 back_3 H3 h3 => ?_)
  obtain ⟨m0, m1, m2⟩ := H3
  refine zw_zg32 71 (by decide) ⟨by lia, by lia⟩ ?_
  refine zw_zj (fun _ => True) (fun s_5 _ => ?_) (fun j_5 hj5 => ?_)
  · refine zw_zg32 71 (by decide) ⟨by lia, by lia⟩ ?_
    refine zw_zj (fun _ => True) (fun s_7 _ => J) (fun j_7 hj7 => ?_)
    refine zw_if (fun c3 => ?_) (fun c3 => ?_)
    · refine zw_if (fun c4 => ?_) (fun c4 => ?_)
      · refine zw_some ?_
        exact ⟨by lia, by lia⟩
      exact hj7 _ trivial
    exact hj7 _ trivial
  refine zw_if (fun c3 => ?_) (fun c3 => ?_)
  · exact hj5 _ trivial
  refine zw_if (fun c4 => ?_) (fun c4 => ?_)
  · exact hj5 _ trivial
  refine zw_zg32 1200 (by decide) ⟨by lia, by lia⟩ ?_
  refine zw_if (fun c5 => ?_) (fun c5 => ?_)
  · have hq : ¬ kk + s_3 = e := by intro hq; rw [hq] at c3; exact c3 he3
    exact h3 _ ⟨by lia, by lia, by lia⟩ (by lia) (by lia)
  exact hj5 _ trivial
set_option maxHeartbeats 4000000 in
set_option maxRecDepth 100000 in
theorem sf_X12_word (v0_5 : Int32) (v0_6 : Int32) (v0_7 : Int32) (v0_8 : Int32) (v0_9 : Int32) (f1 : Nat → Int32) (h_v0_5 : 0 ≤ v0_5 ∧ v0_5 ≤ 1200) (h_v0_6 : 0 ≤ v0_6 ∧ v0_6 ≤ 1200) (h_v0_7 : 0 ≤ v0_7 ∧ v0_7 ≤ 1200) (h_v0_8 : 0 ≤ v0_8 ∧ v0_8 ≤ 4) (h_f1 : (∀ i : Nat, 0 ≤ f1 i ∧ f1 i ≤ 255)) : zw (fn_X12_word v0_5 v0_6 v0_7 v0_8 v0_9 f1) (fun r => 0 ≤ r.1 ∧ r.1 ≤ 1200 ∧ 0 ≤ r.2.1 ∧ r.2.1 ≤ 1200 ∧ 0 ≤ r.2.2.1 ∧ r.2.2.1 ≤ 4 ∧ v0_6 ≤ r.1 ∧ v0_8 ≤ r.2.2.1) := by
  unfold fn_X12_word
  refine zw_zb0 (sf_X12_goesWell v0_8 (by first | with_reducible assumption | exact ⟨by with_reducible assumption, by with_reducible assumption⟩ | first | lia | grind [zu_at, zu_atL, zvn])) (fun o_1 ho_1 => ?_)
  obtain ⟨ho_1_0, ho_1_1, ho_1_2, ho_1_3, ho_1_4, ho_1_5⟩ := ho_1
  refine zw_if (fun c1 => ?_) (fun c1 => ?_)
  · refine zw_some ?_
    first | exact True.intro | ((try dsimp only); (repeat' apply And.intro) <;> first | with_reducible assumption | first | lia | grind [zu_at, zu_atL, zvn])
  refine zw_zb0 (sf_X12_here v0_5 v0_6 f1 (by first | with_reducible assumption | exact ⟨by with_reducible assumption, by with_reducible assumption⟩ | first | lia | grind [zu_at, zu_atL, zvn]) (by first | with_reducible assumption | exact ⟨by with_reducible assumption, by with_reducible assumption⟩ | first | lia | grind [zu_at, zu_atL, zvn]) (by first | with_reducible assumption | exact ⟨by with_reducible assumption, by with_reducible assumption⟩ | first | lia | grind [zu_at, zu_atL, zvn])) (fun o_6 ho_6 => ?_)
  obtain ⟨o_6_0, o_6_1⟩ := o_6
  try dsimp only at ho_6
  obtain ⟨ho_6_0, ho_6_1, ho_6_2, ho_6_3, ho_6_4, ho_6_5, ho_6_6⟩ := ho_6
  refine zw_zb0 (sf_X12_isSmall o_6_1 v0_5 f1 (by first | with_reducible assumption | exact ⟨by with_reducible assumption, by with_reducible assumption⟩ | first | lia | grind [zu_at, zu_atL, zvn]) (by first | with_reducible assumption | exact ⟨by with_reducible assumption, by with_reducible assumption⟩ | first | lia | grind [zu_at, zu_atL, zvn])) (fun o_10 ho_10 => ?_)
  obtain ⟨ho_10_0, ho_10_1, ho_10_2, ho_10_3, ho_10_4, ho_10_5⟩ := ho_10
  refine zw_if (fun c2 => ?_) (fun c2 => ?_)
  · refine zw_zb0 (sf_X12_faults 1 o_6_1 v0_8 v0_9 (by first | with_reducible assumption | exact ⟨by with_reducible assumption, by with_reducible assumption⟩ | first | lia | grind [zu_at, zu_atL, zvn]) (by first | with_reducible assumption | exact ⟨by with_reducible assumption, by with_reducible assumption⟩ | first | lia | grind [zu_at, zu_atL, zvn])) (fun o_15 ho_15 => ?_)
    obtain ⟨o_15_0, o_15_1⟩ := o_15
    try dsimp only at ho_15
    obtain ⟨ho_15_0, ho_15_1, ho_15_2, ho_15_3⟩ := ho_15
    refine zw_some ?_
    first | exact True.intro | ((try dsimp only); (repeat' apply And.intro) <;> first | with_reducible assumption | first | lia | grind [zu_at, zu_atL, zvn])
  refine zw_zb0 (sf_X12_isSmall (o_6_1 - 1) v0_5 f1 (by first | with_reducible assumption | exact ⟨by with_reducible assumption, by with_reducible assumption⟩ | first | lia | grind [zu_at, zu_atL, zvn]) (by first | with_reducible assumption | exact ⟨by with_reducible assumption, by with_reducible assumption⟩ | first | lia | grind [zu_at, zu_atL, zvn])) (fun o_19 ho_19 => ?_)
  obtain ⟨ho_19_0, ho_19_1, ho_19_2, ho_19_3, ho_19_4, ho_19_5⟩ := ho_19
  refine zw_if (fun c3 => ?_) (fun c3 => ?_)
  · refine zw_zb0 (sf_X12_isDigit (o_6_1 - 1) v0_5 f1 (by first | with_reducible assumption | exact ⟨by with_reducible assumption, by with_reducible assumption⟩ | first | lia | grind [zu_at, zu_atL, zvn]) (by first | with_reducible assumption | exact ⟨by with_reducible assumption, by with_reducible assumption⟩ | first | lia | grind [zu_at, zu_atL, zvn])) (fun o_28 ho_28 => ?_)
    obtain ⟨ho_28_0, ho_28_1, ho_28_2, ho_28_3, ho_28_4, ho_28_5⟩ := ho_28
    refine zw_if (fun c4 => ?_) (fun c4 => ?_)
    · refine zw_zl32 (fun s_33 => 0 ≤ s_33 ∧ s_33 ≤ 1200 ∧ s_33 ≤ v0_5 ∧ v0_6 ≤ s_33 ∧ o_6_1 ≤ s_33) (fun s_33 => 1200 - s_33) (by (try dsimp only); (repeat' apply And.intro) <;> first | with_reducible assumption | first | lia | grind [zu_at, zu_atL, zvn]) (by (try dsimp only); first | lia | grind [zu_at, zu_atL, zvn]) (fun s_33 back_33 Hback_33 hback_33 => ?_)
      obtain ⟨Hback_33_0, Hback_33_1, Hback_33_2, Hback_33_3, Hback_33_4⟩ := Hback_33
      refine zw_zb0 (sf_X12_isSmall s_33 v0_5 f1 (by first | with_reducible assumption | exact ⟨by with_reducible assumption, by with_reducible assumption⟩ | ((try clear hback_33); first | lia | grind [zu_at, zu_atL, zvn])) (by first | with_reducible assumption | exact ⟨by with_reducible assumption, by with_reducible assumption⟩ | ((try clear hback_33); first | lia | grind [zu_at, zu_atL, zvn]))) (fun o_34 ho_34 => ?_)
      obtain ⟨ho_34_0, ho_34_1, ho_34_2, ho_34_3, ho_34_4, ho_34_5⟩ := ho_34
      refine zw_if (fun c5 => ?_) (fun c5 => ?_)
      · refine zw_some ?_
        first | exact True.intro | ((try dsimp only); (repeat' apply And.intro) <;> first | with_reducible assumption | ((try clear hback_33); first | lia | grind [zu_at, zu_atL, zvn]))
      exact hback_33 _ (by (try dsimp only); (repeat' apply And.intro) <;> first | with_reducible assumption | ((try clear hback_33); first | lia | grind [zu_at, zu_atL, zvn])) (by (try dsimp only); ((try clear hback_33); first | lia | grind [zu_at, zu_atL, zvn])) (by (try dsimp only); ((try clear hback_33); first | lia | grind [zu_at, zu_atL, zvn]))
    refine zw_zb0 (sf_X12_faults 1 o_6_1 v0_8 v0_9 (by first | with_reducible assumption | exact ⟨by with_reducible assumption, by with_reducible assumption⟩ | ((try clear hback_33); first | lia | grind [zu_at, zu_atL, zvn])) (by first | with_reducible assumption | exact ⟨by with_reducible assumption, by with_reducible assumption⟩ | ((try clear hback_33); first | lia | grind [zu_at, zu_atL, zvn]))) (fun o_39 ho_39 => ?_)
    obtain ⟨o_39_0, o_39_1⟩ := o_39
    try dsimp only at ho_39
    obtain ⟨ho_39_0, ho_39_1, ho_39_2, ho_39_3⟩ := ho_39
    refine zw_some ?_
    first | exact True.intro | ((try dsimp only); (repeat' apply And.intro) <;> first | with_reducible assumption | ((try clear hback_33); first | lia | grind [zu_at, zu_atL, zvn]))
  refine zw_zb0 (sf_X12_faults 1 o_6_1 v0_8 v0_9 (by first | with_reducible assumption | exact ⟨by with_reducible assumption, by with_reducible assumption⟩ | ((try clear hback_33); first | lia | grind [zu_at, zu_atL, zvn])) (by first | with_reducible assumption | exact ⟨by with_reducible assumption, by with_reducible assumption⟩ | ((try clear hback_33); first | lia | grind [zu_at, zu_atL, zvn]))) (fun o_24 ho_24 => ?_)
  obtain ⟨o_24_0, o_24_1⟩ := o_24
  try dsimp only at ho_24
  obtain ⟨ho_24_0, ho_24_1, ho_24_2, ho_24_3⟩ := ho_24
  refine zw_some ?_
  first | exact True.intro | ((try dsimp only); (repeat' apply And.intro) <;> first | with_reducible assumption | ((try clear hback_33); first | lia | grind [zu_at, zu_atL, zvn]))
