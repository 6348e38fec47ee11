set_option maxHeartbeats 4000000 in
set_option maxRecDepth 100000 in
theorem sf_X0_whyNot (p2 : Int32) (p3 : Int32) (v1_0 : Int32) (f3 : Nat → Int32) (f4 : Nat → Int32) (f6 : Nat → Int32) (f7 : Nat → Int64) (f8 : Nat → Int64) (f10 : Nat → Int64) (v11_0 : Int32) (f12 : Nat → Int32) (f13 : Nat → Int32) (f14 : Nat → Int32) (f15 : Nat → Int32) (f16 : Nat → Int32) (f17 : Nat → Int32) (h_p2 : 0 ≤ p2 ∧ p2 ≤ 13) (h_v1_0 : 0 ≤ v1_0 ∧ v1_0 ≤ 4) (h_f3 : (∀ i : Nat, 0 ≤ f3 i ∧ f3 i ≤ 13)) (h_v11_0 : 0 ≤ v11_0 ∧ v11_0 ≤ 14) : zw (fn_X0_whyNot p2 p3 v1_0 f3 f4 f6 f7 f8 f10 v11_0 f12 f13 f14 f15 f16 f17) (fun r => 0 ≤ r.1 ∧ r.1 ≤ 6) := by
  unfold fn_X0_whyNot
  refine zw_zg32 14 (by decide) (by (try dsimp only); first | lia | grind [zu_at, zu_atL, zvn]) ?_
  refine zw_zg32 14 (by decide) (by (try dsimp only); first | lia | grind [zu_at, zu_atL, zvn]) ?_
  refine zw_zj (fun s_3 => 0 ≤ s_3 ∧ s_3 ≤ 1) (fun s_3 Hj_3 => ?_) (fun j_3 hj_3 => ?_)
  · obtain ⟨Hj_3_0, Hj_3_1⟩ := Hj_3
    refine zw_zb0 (sf_X9_hasFormat p3 v1_0 (by first | with_reducible assumption | exact ⟨by with_reducible assumption, by with_reducible assumption⟩ | first | lia | grind [zu_at, zu_atL, zvn])) (fun o_4 ho_4 => ?_)
    obtain ⟨ho_4_0, ho_4_1, ho_4_2, ho_4_3, ho_4_4, ho_4_5⟩ := ho_4
    refine zw_if (fun c1 => ?_) (fun c1 => ?_)
    · refine zw_some ?_
      first | exact True.intro | ((try dsimp only); (repeat' apply And.intro) <;> first | with_reducible assumption | first | lia | grind [zu_at, zu_atL, zvn])
    refine zw_if (fun c2 => ?_) (fun c2 => ?_)
    · refine zw_some ?_
      first | exact True.intro | ((try dsimp only); (repeat' apply And.intro) <;> first | with_reducible assumption | first | lia | grind [zu_at, zu_atL, zvn])
    refine zw_zg32 14 (by decide) (by (try dsimp only); first | lia | grind [zu_at, zu_atL, zvn]) ?_
    refine zw_zb0 (sf_X0_readLong ((p2 * 25) + 1) f6 (by first | with_reducible assumption | exact ⟨by with_reducible assumption, by with_reducible assumption⟩ | first | lia | grind [zu_at, zu_atL, zvn])) (fun o_11 ho_11 => ?_)
    refine zw_zg32 14 (by decide) (by (try dsimp only); first | lia | grind [zu_at, zu_atL, zvn]) ?_
    refine zw_zb0 (sf_X0_readLong ((p2 * 25) + 9) f6 (by first | with_reducible assumption | exact ⟨by with_reducible assumption, by with_reducible assumption⟩ | first | lia | grind [zu_at, zu_atL, zvn])) (fun o_16 ho_16 => ?_)
    refine zw_zb0 (sf_X0_readLong ((p2 * 25) + 17) f6 (by first | with_reducible assumption | exact ⟨by with_reducible assumption, by with_reducible assumption⟩ | first | lia | grind [zu_at, zu_atL, zvn])) (fun o_20 ho_20 => ?_)
    refine zw_zb0 (sf_X6_lowest p2 v11_0 f12 f13 f14 (vp_updL f7 p2.toNatClampNeg o_11) (vp_updL f8 p2.toNatClampNeg o_16) (by first | with_reducible assumption | exact ⟨by with_reducible assumption, by with_reducible assumption⟩ | first | lia | grind [zu_at, zu_atL, zvn]) (by first | with_reducible assumption | exact ⟨by with_reducible assumption, by with_reducible assumption⟩ | first | lia | grind [zu_at, zu_atL, zvn])) (fun o_24 ho_24 => ?_)
    refine zw_ifc (lg_cmp_le _ _) (fun c3 => ?_) (fun c3 => ?_)
    · refine zw_zb0 (sf_X6_highest p2 v11_0 f12 f13 f14 (vp_updL f8 p2.toNatClampNeg o_16) (vp_updL f7 p2.toNatClampNeg o_11) (by first | with_reducible assumption | exact ⟨by with_reducible assumption, by with_reducible assumption⟩ | first | lia | grind [zu_at, zu_atL, zvn]) (by first | with_reducible assumption | exact ⟨by with_reducible assumption, by with_reducible assumption⟩ | first | lia | grind [zu_at, zu_atL, zvn])) (fun o_29 ho_29 => ?_)
      refine zw_ifc (lg_cmp_ge _ _) (fun c4 => ?_) (fun c4 => ?_)
      · refine zw_zb0 (sf_X7_errorOf p2 v1_0 v11_0 f3 (upd f4 (f3 p2.toNatClampNeg).toNatClampNeg p3) f15 f12 f13 (vp_updL f10 p2.toNatClampNeg o_20) f14 (vp_updL f7 p2.toNatClampNeg o_11) (vp_updL f8 p2.toNatClampNeg o_16) (by first | with_reducible assumption | exact ⟨by with_reducible assumption, by with_reducible assumption⟩ | first | lia | grind [zu_at, zu_atL, zvn]) (by first | with_reducible assumption | exact ⟨by with_reducible assumption, by with_reducible assumption⟩ | first | lia | grind [zu_at, zu_atL, zvn]) (by first | with_reducible assumption | exact ⟨by with_reducible assumption, by with_reducible assumption⟩ | first | lia | grind [zu_at, zu_atL, zvn]) (by first | with_reducible assumption | exact ⟨by with_reducible assumption, by with_reducible assumption⟩ | first | lia | grind [zu_at, zu_atL, zvn])) (fun o_34 ho_34 => ?_)
        refine zw_ifc (lg_cmp_ge _ _) (fun c5 => ?_) (fun c5 => ?_)
        · refine zw_zb0 (sf_X6_amountOf p2 (vp_updL f7 p2.toNatClampNeg o_11) (vp_updL f8 p2.toNatClampNeg o_16) (by first | with_reducible assumption | exact ⟨by with_reducible assumption, by with_reducible assumption⟩ | first | lia | grind [zu_at, zu_atL, zvn])) (fun o_39 ho_39 => ?_)
          refine zw_zb0 (sf_X9_mostOf p3 v1_0 f16 (by first | with_reducible assumption | exact ⟨by with_reducible assumption, by with_reducible assumption⟩ | first | lia | grind [zu_at, zu_atL, zvn])) (fun o_43 ho_43 => ?_)
          refine zw_ifc (lg_cmp_le _ _) (fun c6 => ?_) (fun c6 => ?_)
          · refine zw_zb0 (sf_X9_isAnswer p2 v11_0 f17 (by first | with_reducible assumption | exact ⟨by with_reducible assumption, by with_reducible assumption⟩ | first | lia | grind [zu_at, zu_atL, zvn])) (fun o_48 ho_48 => ?_)
            obtain ⟨ho_48_0, ho_48_1, ho_48_2, ho_48_3, ho_48_4, ho_48_5⟩ := ho_48
            refine zw_if (fun c7 => ?_) (fun c7 => ?_)
            · refine zw_some ?_
              first | exact True.intro | ((try dsimp only); (repeat' apply And.intro) <;> first | with_reducible assumption | first | lia | grind [zu_at, zu_atL, zvn])
            refine zw_ifc (lg_cmp_le _ _) (fun c8 => ?_) (fun c8 => ?_)
            · refine zw_some ?_
              first | exact True.intro | ((try dsimp only); (repeat' apply And.intro) <;> first | with_reducible assumption | first | lia | grind [zu_at, zu_atL, zvn])
            refine zw_some ?_
            first | exact True.intro | ((try dsimp only); (repeat' apply And.intro) <;> first | with_reducible assumption | first | lia | grind [zu_at, zu_atL, zvn])
          refine zw_some ?_
          first | exact True.intro | ((try dsimp only); (repeat' apply And.intro) <;> first | with_reducible assumption | first | lia | grind [zu_at, zu_atL, zvn])
        refine zw_some ?_
        first | exact True.intro | ((try dsimp only); (repeat' apply And.intro) <;> first | with_reducible assumption | first | lia | grind [zu_at, zu_atL, zvn])
      refine zw_some ?_
      first | exact True.intro | ((try dsimp only); (repeat' apply And.intro) <;> first | with_reducible assumption | first | lia | grind [zu_at, zu_atL, zvn])
    refine zw_some ?_
    first | exact True.intro | ((try dsimp only); (repeat' apply And.intro) <;> first | with_reducible assumption | first | lia | grind [zu_at, zu_atL, zvn])
  refine zw_zj (fun _ => True) (fun s_54 Hj_54 => ?_) (fun j_54 hj_54 => ?_)
  · exact hj_3 _ (by first | exact True.intro | ((try dsimp only); (repeat' apply And.intro) <;> first | with_reducible assumption | first | lia | grind [zu_at, zu_atL, zvn]))
  refine zw_if (fun c9 => ?_) (fun c9 => ?_)
  · exact hj_54 _ (by first | exact True.intro | ((try dsimp only); (repeat' apply And.intro) <;> first | with_reducible assumption | first | lia | grind [zu_at, zu_atL, zvn]))
  refine zw_if (fun c10 => ?_) (fun c10 => ?_)
  · exact hj_54 _ (by first | exact True.intro | ((try dsimp only); (repeat' apply And.intro) <;> first | with_reducible assumption | first | lia | grind [zu_at, zu_atL, zvn]))
  exact hj_3 _ (by first | exact True.intro | ((try dsimp only); (repeat' apply And.intro) <;> first | with_reducible assumption | first | lia | grind [zu_at, zu_atL, zvn]))
set_option maxHeartbeats 4000000 in
set_option maxRecDepth 100000 in
theorem sf_X0_holds (p2 : Int32) (v1_0 : Int32) (v2_0 : Int32) (f3 : Nat → Int32) (v4_0 : Int32) (f5 : Nat → Int32) (f6 : Nat → Int32) (f7 : Nat → Int32) (f9 : Nat → Int64) (f10 : Nat → Int64) (f12 : Nat → Int64) (f13 : Nat → Int32) (f14 : Nat → Int32) (f15 : Nat → Int32) (f16 : Nat → Int32) (f17 : Nat → Int32) (f18 : Nat → Int32) (h_v1_0 : 0 ≤ v1_0 ∧ v1_0 ≤ 4) (h_v2_0 : 0 ≤ v2_0 ∧ v2_0 ≤ 14) (h_v4_0 : 0 ≤ v4_0 ∧ v4_0 ≤ 14) (h_f7 : (∀ i : Nat, 0 ≤ f7 i ∧ f7 i ≤ 13)) : zw (fn_X0_holds p2 v1_0 v2_0 f3 v4_0 f5 f6 f7 f9 f10 f12 f13 f14 f15 f16 f17 f18) (fun r => 0 ≤ r.1 ∧ r.1 ≤ 1 ∧ (-2) ≤ r.2.1 ∧ (-1) ≤ r.2.2.1 ∧ r.2.1 ≤ 13 ∧ r.2.2.1 ≤ 6) := by
  unfold fn_X0_holds
  refine zw_zb0 (sf_X0_forget) (fun o_1 ho_1 => ?_)
  obtain ⟨o_1_0, o_1_1⟩ := o_1
  try dsimp only at ho_1
  obtain ⟨ho_1_0, ho_1_1, ho_1_2, ho_1_3⟩ := ho_1
  refine zw_if (fun c1 => ?_) (fun c1 => ?_)
  · refine zw_some ?_
    first | exact True.intro | ((try dsimp only); (repeat' apply And.intro) <;> first | with_reducible assumption | first | lia | grind [zu_at, zu_atL, zvn])
  refine zw_if (fun c2 => ?_) (fun c2 => ?_)
  · refine zw_if (fun c3 => ?_) (fun c3 => ?_)
    · refine zw_zb0 (sf_X2_fillFree (-1) v4_0 f5 f6 (by first | with_reducible assumption | exact ⟨by with_reducible assumption, by with_reducible assumption⟩ | first | lia | grind [zu_at, zu_atL, zvn])) (fun o_8 ho_8 => ?_)
      refine zw_zl32 (fun s_12 => 0 ≤ s_12.1 ∧ s_12.1 ≤ 14 ∧ s_12.1 ≤ v2_0) (fun s_12 => 14 - s_12.1) (by (try dsimp only); (repeat' apply And.intro) <;> first | with_reducible assumption | first | lia | grind [zu_at, zu_atL, zvn]) (by (try dsimp only); first | lia | grind [zu_at, zu_atL, zvn]) (fun s_12 back_12 Hback_12 hback_12 => ?_)
      obtain ⟨s_12_0, s_12_1, s_12_2, s_12_3, s_12_4⟩ := s_12
      try dsimp only at Hback_12 hback_12
      obtain ⟨Hback_12_0, Hback_12_1, Hback_12_2⟩ := Hback_12
      refine zw_if (fun c4 => ?_) (fun c4 => ?_)
      · refine zw_some ?_
        first | exact True.intro | ((try dsimp only); (repeat' apply And.intro) <;> first | with_reducible assumption | first | lia | grind [zu_at, zu_atL, zvn])
      refine zw_zg32 1200 (by decide) (by (try dsimp only); first | lia | grind [zu_at, zu_atL, zvn]) ?_
      refine zw_zb0 (sf_X0_whyNot s_12_0 ((f3 (s_12_0 * 25).toNatClampNeg) &&& 255) v1_0 f7 s_12_1 f3 s_12_3 s_12_4 s_12_2 v2_0 f13 f14 f15 f16 f17 f18 (by first | with_reducible assumption | exact ⟨by with_reducible assumption, by with_reducible assumption⟩ | first | lia | grind [zu_at, zu_atL, zvn]) (by first | with_reducible assumption | exact ⟨by with_reducible assumption, by with_reducible assumption⟩ | first | lia | grind [zu_at, zu_atL, zvn]) (by first | with_reducible assumption | exact ⟨by with_reducible assumption, by with_reducible assumption⟩ | first | lia | grind [zu_at, zu_atL, zvn]) (by first | with_reducible assumption | exact ⟨by with_reducible assumption, by with_reducible assumption⟩ | first | lia | grind [zu_at, zu_atL, zvn])) (fun o_15 ho_15 => ?_)
      obtain ⟨o_15_0, o_15_1, o_15_2, o_15_3, o_15_4⟩ := o_15
      try dsimp only at ho_15
      obtain ⟨ho_15_0, ho_15_1⟩ := ho_15
      refine zw_if (fun c5 => ?_) (fun c5 => ?_)
      · exact hback_12 _ (by (try dsimp only); (repeat' apply And.intro) <;> first | with_reducible assumption | first | lia | grind [zu_at, zu_atL, zvn]) (by (try dsimp only); first | lia | grind [zu_at, zu_atL, zvn]) (by (try dsimp only); first | lia | grind [zu_at, zu_atL, zvn])
      refine zw_some ?_
      first | exact True.intro | ((try dsimp only); (repeat' apply And.intro) <;> first | with_reducible assumption | first | lia | grind [zu_at, zu_atL, zvn])
    refine zw_some ?_
    first | exact True.intro | ((try dsimp only); (repeat' apply And.intro) <;> first | with_reducible assumption | first | lia | grind [zu_at, zu_atL, zvn])
  refine zw_some ?_
  first | exact True.intro | ((try dsimp only); (repeat' apply And.intro) <;> first | with_reducible assumption | first | lia | grind [zu_at, zu_atL, zvn])
set_option maxHeartbeats 4000000 in
set_option maxRecDepth 100000 in
theorem sf_X1_forget  : zw (fn_X1_forget) (fun r => 0 ≤ r.1 ∧ r.1 ≤ 1 ∧ (-1) ≤ r.2 ∧ r.1 ≤ 0 ∧ r.2 ≤ (-1)) := by
  unfold fn_X1_forget
  refine zw_some ?_
  first | exact True.intro | ((try dsimp only); (repeat' apply And.intro) <;> first | with_reducible assumption | first | lia | grind [zu_at, zu_atL, zvn])
set_option maxHeartbeats 4000000 in
set_option maxRecDepth 100000 in
theorem sf_X9_hasChoice (v1_0 : Int32) (v2_2 : Int32) (h_v1_0 : 0 ≤ v1_0 ∧ v1_0 ≤ 14) (h_v2_2 : 0 ≤ v2_2 ∧ v2_2 ≤ 1) : zw (fn_X9_hasChoice v1_0 v2_2) (fun r => 0 ≤ r ∧ r ≤ 1 ∧ r ≤ v1_0 ∧ (r = 0 → r ≤ v2_2) ∧ (¬ r = 0 → 1 ≤ r ∧ v2_2 ≤ 0) ∧ (r = 1 → 1 ≤ v1_0 ∧ v2_2 ≤ 0 ∧ v2_2 < r) ∧ (¬ r = 1 → r ≤ 0)) := by
  unfold fn_X9_hasChoice
  refine zw_if (fun c1 => ?_) (fun c1 => ?_)
  · refine zw_some ?_
    first | exact True.intro | ((try dsimp only); first | with_reducible assumption | grind [zu_at, zu_atL, zvn] | ((repeat' apply And.intro) <;> first | with_reducible assumption | first | lia | grind [zu_at, zu_atL, zvn]))
  refine zw_if (fun c2 => ?_) (fun c2 => ?_)
  · refine zw_some ?_
    first | exact True.intro | ((try dsimp only); first | with_reducible assumption | grind [zu_at, zu_atL, zvn] | ((repeat' apply And.intro) <;> first | with_reducible assumption | first | lia | grind [zu_at, zu_atL, zvn]))
  refine zw_some ?_
  first | exact True.intro | ((try dsimp only); first | with_reducible assumption | grind [zu_at, zu_atL, zvn] | ((repeat' apply And.intro) <;> first | with_reducible assumption | first | lia | grind [zu_at, zu_atL, zvn]))
set_option maxHeartbeats 4000000 in
set_option maxRecDepth 100000 in
theorem sf_X4_countAnswers (p1 : Int32) (v0_0 : Int32) (f1 : Nat → Int32) (h_v0_0 : 0 ≤ v0_0 ∧ v0_0 ≤ 14) : zw (fn_X4_countAnswers p1 v0_0 f1) (fun r => 0 ≤ r ∧ r ≤ 14 ∧ r ≤ v0_0) := by
  unfold fn_X4_countAnswers
  refine zw_zl32 (fun s_1 => 0 ≤ s_1.1 ∧ 0 ≤ s_1.2 ∧ s_1.1 ≤ 14 ∧ s_1.2 ≤ 14 ∧ s_1.1 ≤ v0_0 ∧ s_1.2 ≤ v0_0 ∧ s_1.1 ≤ s_1.2) (fun s_1 => 14 - s_1.2) (by (try dsimp only); (repeat' apply And.intro) <;> first | with_reducible assumption | first | lia | grind [zu_at, zu_atL, zvn]) (by (try dsimp only); first | lia | grind [zu_at, zu_atL, zvn]) (fun s_1 back_1 Hback_1 hback_1 => ?_)
  obtain ⟨s_1_0, s_1_1⟩ := s_1
  try dsimp only at Hback_1 hback_1
  obtain ⟨Hback_1_0, Hback_1_1, Hback_1_2, Hback_1_3, Hback_1_4, Hback_1_5, Hback_1_6⟩ := Hback_1
  refine zw_if (fun c1 => ?_) (fun c1 => ?_)
  · refine zw_some ?_
    first | exact True.intro | ((try dsimp only); (repeat' apply And.intro) <;> first | with_reducible assumption | first | lia | grind [zu_at, zu_atL, zvn])
  refine zw_if (fun c2 => ?_) (fun c2 => ?_)
  · refine zw_some ?_
    first | exact True.intro | ((try dsimp only); (repeat' apply And.intro) <;> first | with_reducible assumption | first | lia | grind [zu_at, zu_atL, zvn])
  refine zw_zg32 14 (by decide) (by (try dsimp only); first | lia | grind [zu_at, zu_atL, zvn]) ?_
  refine zw_if (fun c3 => ?_) (fun c3 => ?_)
  · exact hback_1 _ (by (try dsimp only); (repeat' apply And.intro) <;> first | with_reducible assumption | first | lia | grind [zu_at, zu_atL, zvn]) (by (try dsimp only); first | lia | grind [zu_at, zu_atL, zvn]) (by (try dsimp only); first | lia | grind [zu_at, zu_atL, zvn])
  exact hback_1 _ (by (try dsimp only); (repeat' apply And.intro) <;> first | with_reducible assumption | first | lia | grind [zu_at, zu_atL, zvn]) (by (try dsimp only); first | lia | grind [zu_at, zu_atL, zvn]) (by (try dsimp only); first | lia | grind [zu_at, zu_atL, zvn])
set_option maxHeartbeats 4000000 in
set_option maxRecDepth 100000 in
theorem sf_X1_makeRoom (p1 : Int32) (v0_3 : Int32) (n1 : Nat) (f1 : Nat → Int32) (n2 : Nat) (f2 : Nat → Int32) (n3 : Nat) (f3 : Nat → Int32) (n4 : Nat) (f4 : Nat → Int32) (n5 : Nat) (f5 : Nat → Int32) (h_p1 : 0 ≤ p1 ∧ p1 ≤ 1024) (h_v0_3 : 0 ≤ v0_3 ∧ v0_3 ≤ 14) (h_n1 : n1 ≤ 1024) (hN_n1 : 0 ≤ Int32.ofNat n1 ∧ Int32.ofNat n1 ≤ 1024) (h_n2 : n2 ≤ 14336) (hN_n2 : 0 ≤ Int32.ofNat n2 ∧ Int32.ofNat n2 ≤ 14336) (h_n3 : n3 ≤ 1024) (hN_n3 : 0 ≤ Int32.ofNat n3 ∧ Int32.ofNat n3 ≤ 1024) (h_n4 : n4 ≤ 1024) (hN_n4 : 0 ≤ Int32.ofNat n4 ∧ Int32.ofNat n4 ≤ 1024) (h_n5 : n5 ≤ 1024) (hN_n5 : 0 ≤ Int32.ofNat n5 ∧ Int32.ofNat n5 ≤ 1024) (hr_0 : (Int32.ofNat n1) ≤ (Int32.ofNat n4)) (hr_1 : (Int32.ofNat n1) ≤ (Int32.ofNat n3)) (hr_2 : (Int32.ofNat n1) ≤ (Int32.ofNat n5)) (hr_3 : (Int32.ofNat n4) ≤ (Int32.ofNat n1)) (hr_4 : (Int32.ofNat n3) ≤ (Int32.ofNat n1)) (hr_5 : (Int32.ofNat n5) ≤ (Int32.ofNat n1)) : zw (fn_X1_makeRoom p1 v0_3 n1 f1 n2 f2 n3 f3 n4 f4 n5 f5) (fun r => r.2.1 ≤ 1024 ∧ 0 ≤ Int32.ofNat r.2.1 ∧ Int32.ofNat r.2.1 ≤ 1024 ∧ r.2.2.2.1 ≤ 14336 ∧ 0 ≤ Int32.ofNat r.2.2.2.1 ∧ Int32.ofNat r.2.2.2.1 ≤ 14336 ∧ r.2.2.2.2.2.1 ≤ 1024 ∧ 0 ≤ Int32.ofNat r.2.2.2.2.2.1 ∧ Int32.ofNat r.2.2.2.2.2.1 ≤ 1024 ∧ r.2.2.2.2.2.2.2.1 ≤ 1024 ∧ 0 ≤ Int32.ofNat r.2.2.2.2.2.2.2.1 ∧ Int32.ofNat r.2.2.2.2.2.2.2.1 ≤ 1024 ∧ r.2.2.2.2.2.2.2.2.2 ≤ 1024 ∧ 0 ≤ Int32.ofNat r.2.2.2.2.2.2.2.2.2 ∧ Int32.ofNat r.2.2.2.2.2.2.2.2.2 ≤ 1024 ∧ (Int32.ofNat r.2.1) ≤ (Int32.ofNat r.2.2.2.2.2.2.2.1) ∧ (Int32.ofNat r.2.1) ≤ (Int32.ofNat r.2.2.2.2.2.1) ∧ (Int32.ofNat r.2.1) ≤ (Int32.ofNat r.2.2.2.2.2.2.2.2.2) ∧ (Int32.ofNat r.2.2.2.2.2.2.2.1) ≤ (Int32.ofNat r.2.1) ∧ (Int32.ofNat r.2.2.2.2.2.1) ≤ (Int32.ofNat r.2.1) ∧ (Int32.ofNat r.2.2.2.2.2.2.2.2.2) ≤ (Int32.ofNat r.2.1) ∧ (Int32.ofNat n1) ≤ (Int32.ofNat r.2.1)) := by
  unfold fn_X1_makeRoom
  refine zw_if (fun c1 => ?_) (fun c1 => ?_)
  · refine zw_if (fun c2 => ?_) (fun c2 => ?_)
    · refine zw_some ?_
      first | exact True.intro | ((try dsimp only); (repeat' apply And.intro) <;> first | with_reducible assumption | first | lia | grind [zu_at, zu_atL, zvn, zmul14, zofn', zcl1024, zcl14336])
    refine zw_za32 14336 (by decide) (by (try dsimp only); first | lia | grind [zu_at, zu_atL, zvn, zmul14, zofn', zcl1024, zcl14336]) ?_
    refine zw_some ?_
    first | exact True.intro | ((try dsimp only); (repeat' apply And.intro) <;> first | with_reducible assumption | first | lia | grind [zu_at, zu_atL, zvn, zmul14, zofn', zcl1024, zcl14336])
  refine zw_za32 1024 (by decide) (by (try dsimp only); first | lia | grind [zu_at, zu_atL, zvn, zmul14, zofn', zcl1024, zcl14336]) ?_
  refine zw_za32 1024 (by decide) (by (try dsimp only); first | lia | grind [zu_at, zu_atL, zvn, zmul14, zofn', zcl1024, zcl14336]) ?_
  refine zw_za32 1024 (by decide) (by (try dsimp only); first | lia | grind [zu_at, zu_atL, zvn, zmul14, zofn', zcl1024, zcl14336]) ?_
  refine zw_za32 1024 (by decide) (by (try dsimp only); first | lia | grind [zu_at, zu_atL, zvn, zmul14, zofn', zcl1024, zcl14336]) ?_
  refine zw_if (fun c3 => ?_) (fun c3 => ?_)
  · refine zw_some ?_
    first | exact True.intro | ((try dsimp only); (repeat' apply And.intro) <;> first | with_reducible assumption | first | lia | grind [zu_at, zu_atL, zvn, zmul14, zofn', zcl1024, zcl14336])
  refine zw_za32 14336 (by decide) (by (try dsimp only); first | lia | grind [zu_at, zu_atL, zvn, zmul14, zofn', zcl1024, zcl14336]) ?_
  refine zw_some ?_
  first | exact True.intro | ((try dsimp only); (repeat' apply And.intro) <;> first | with_reducible assumption | first | lia | grind [zu_at, zu_atL, zvn, zmul14, zofn', zcl1024, zcl14336])
set_option maxHeartbeats 4000000 in
set_option maxRecDepth 100000 in
theorem sf_X1_unfold (p1 : Int32) (v0_0 : Int32) (v1_0 : Int32) (f2 : Nat → Int32) (f3 : Nat → Int32) (h_v0_0 : 0 ≤ v0_0 ∧ v0_0 ≤ 4) (h_v1_0 : 0 ≤ v1_0 ∧ v1_0 ≤ 14) : zw (fn_X1_unfold p1 v0_0 v1_0 f2 f3) (fun r => True) := by
  unfold fn_X1_unfold
  refine zw_zl32 (fun s_1 => (-1) ≤ s_1.2.1 ∧ s_1.2.1 ≤ 13 ∧ s_1.2.1 < v1_0) (fun s_1 => s_1.2.1 - (-1)) (by (try dsimp only); (repeat' apply And.intro) <;> first | with_reducible assumption | first | lia | grind [zu_at, zu_atL, zvn]) (by (try dsimp only); first | lia | grind [zu_at, zu_atL, zvn]) (fun s_1 back_1 Hback_1 hback_1 => ?_)
  obtain ⟨s_1_0, s_1_1, s_1_2⟩ := s_1
  try dsimp only at Hback_1 hback_1
  obtain ⟨Hback_1_0, Hback_1_1, Hback_1_2⟩ := Hback_1
  refine zw_if (fun c1 => ?_) (fun c1 => ?_)
  · refine zw_some ?_
    first | exact True.intro | ((try dsimp only); (repeat' apply And.intro) <;> first | with_reducible assumption | first | lia | grind [zu_at, zu_atL, zvn])
  refine zw_zg32 14 (by decide) (by (try dsimp only); first | lia | grind [zu_at, zu_atL, zvn]) ?_
  refine zw_zn1 ?_
  refine zw_if (fun c2 => ?_) (fun c2 => ?_)
  · refine zw_if (fun c3 => ?_) (fun c3 => ?_)
    · exact hback_1 _ (by (try dsimp only); (repeat' apply And.intro) <;> first | with_reducible assumption | first | lia | grind [zu_at, zu_atL, zvn]) (by (try dsimp only); first | lia | grind [zu_at, zu_atL, zvn]) (by (try dsimp only); first | lia | grind [zu_at, zu_atL, zvn])
    refine zw_zd (by (try dsimp only); first | lia | grind [zu_at, zu_atL, zvn]) ?_
    refine zw_zn1 ?_
    refine zw_zd (by (try dsimp only); first | lia | grind [zu_at, zu_atL, zvn]) ?_
    exact hback_1 _ (by (try dsimp only); (repeat' apply And.intro) <;> first | with_reducible assumption | first | lia | grind [zu_at, zu_atL, zvn]) (by (try dsimp only); first | lia | grind [zu_at, zu_atL, zvn]) (by (try dsimp only); first | lia | grind [zu_at, zu_atL, zvn])
  exact hback_1 _ (by (try dsimp only); (repeat' apply And.intro) <;> first | with_reducible assumption | first | lia | grind [zu_at, zu_atL, zvn]) (by (try dsimp only); first | lia | grind [zu_at, zu_atL, zvn]) (by (try dsimp only); first | lia | grind [zu_at, zu_atL, zvn])
set_option maxHeartbeats 4000000 in
set_option maxRecDepth 100000 in
theorem sf_X7_reckon (v1_0 : Int32) (v2_0 : Int32) (f4 : Nat → Int32) (f5 : Nat → Int32) (f6 : Nat → Int32) (f7 : Nat → Int32) (f8 : Nat → Int32) (f9 : Nat → Int64) (f10 : Nat → Int32) (f12 : Nat → Int64) (f13 : Nat → Int64) (f14 : Nat → Int32) (f15 : Nat → Int32) (h_v1_0 : 0 ≤ v1_0 ∧ v1_0 ≤ 4) (h_v2_0 : 0 ≤ v2_0 ∧ v2_0 ≤ 14) (h_f4 : (∀ i : Nat, 0 ≤ f4 i ∧ f4 i ≤ 13)) : zw (fn_X7_reckon v1_0 v2_0 f4 f5 f6 f7 f8 f9 f10 f12 f13 f14 f15) (fun r => 0 ≤ r.1 ∧ r.1 ≤ 1 ∧ (-2) ≤ r.2.1 ∧ 0 ≤ r.2.2.1 ∧ r.2.1 ≤ 13 ∧ r.2.2.1 ≤ 2 ∧ r.2.1 < v2_0 ∧ r.2.2.1 ≤ r.2.1 + 2 ∧ (r.1 = 1 → r.2.1 ≤ (-2) ∧ r.2.2.1 < r.1) ∧ (¬ r.1 = 1 → 0 ≤ r.2.1 ∧ 1 ≤ r.2.2.1 ∧ r.1 ≤ 0) ∧ (r.1 = 0 → 0 ≤ r.2.1 ∧ 1 ≤ r.2.2.1 ∧ r.1 ≤ r.2.1 ∧ r.1 < r.2.2.1 ∧ r.1 ≤ v1_0) ∧ (¬ r.1 = 0 → 1 ≤ r.1 ∧ r.2.1 ≤ (-2))) := by
  unfold fn_X7_reckon
  refine zw_zl32 (fun s_1 => 0 ≤ s_1.1 ∧ s_1.1 ≤ 14 ∧ 0 ≤ s_1.2.1 ∧ s_1.2.1 ≤ 0 ∧ s_1.1 ≤ v2_0) (fun s_1 => 14 - s_1.1) (by (try dsimp only); (repeat' apply And.intro) <;> first | with_reducible assumption | first | lia | grind [zu_at, zu_atL, zvn]) (by (try dsimp only); first | lia | grind [zu_at, zu_atL, zvn]) (fun s_1 back_1 Hback_1 hback_1 => ?_)
  obtain ⟨s_1_0, s_1_1, s_1_2⟩ := s_1
  try dsimp only at Hback_1 hback_1
  obtain ⟨Hback_1_0, Hback_1_1, Hback_1_2, Hback_1_3, Hback_1_4⟩ := Hback_1
  refine zw_if (fun c1 => ?_) (fun c1 => ?_)
  · refine zw_some ?_
    first | exact True.intro | ((try dsimp only); (repeat' apply And.intro) <;> first | with_reducible assumption | first | lia | grind [zu_at, zu_atL, zvn])
  refine zw_zb0 (sf_X7_errorOf s_1_0 v1_0 v2_0 f4 f5 f6 f7 f8 s_1_2 f10 f12 f13 (by first | with_reducible assumption | exact ⟨by with_reducible assumption, by with_reducible assumption⟩ | first | lia | grind [zu_at, zu_atL, zvn]) (by first | with_reducible assumption | exact ⟨by with_reducible assumption, by with_reducible assumption⟩ | first | lia | grind [zu_at, zu_atL, zvn]) (by first | with_reducible assumption | exact ⟨by with_reducible assumption, by with_reducible assumption⟩ | first | lia | grind [zu_at, zu_atL, zvn]) (by first | with_reducible assumption | exact ⟨by with_reducible assumption, by with_reducible assumption⟩ | first | lia | grind [zu_at, zu_atL, zvn])) (fun o_3 ho_3 => ?_)
  refine zw_zg32 14 (by decide) (by (try dsimp only); first | lia | grind [zu_at, zu_atL, zvn]) ?_
  refine zw_zb0 (sf_X9_formatOf s_1_0 v2_0 f4 f5 (by first | with_reducible assumption | exact ⟨by with_reducible assumption, by with_reducible assumption⟩ | first | lia | grind [zu_at, zu_atL, zvn]) (by first | with_reducible assumption | exact ⟨by with_reducible assumption, by with_reducible assumption⟩ | first | lia | grind [zu_at, zu_atL, zvn])) (fun o_8 ho_8 => ?_)
  refine zw_zb0 (sf_X9_mostOf o_8 v1_0 f14 (by first | with_reducible assumption | exact ⟨by with_reducible assumption, by with_reducible assumption⟩ | first | lia | grind [zu_at, zu_atL, zvn])) (fun o_12 ho_12 => ?_)
  refine zw_zb0 (sf_X6_amountOf s_1_0 f12 f13 (by first | with_reducible assumption | exact ⟨by with_reducible assumption, by with_reducible assumption⟩ | first | lia | grind [zu_at, zu_atL, zvn])) (fun o_16 ho_16 => ?_)
  refine zw_zn (fun x_20 ex_20 => ?_)
  refine zw_zj (fun s_21 => 0 ≤ s_21 ∧ s_21 ≤ 2) (fun s_21 Hj_21 => ?_) (fun j_21 hj_21 => ?_)
  · obtain ⟨Hj_21_0, Hj_21_1⟩ := Hj_21
    refine zw_if (fun c2 => ?_) (fun c2 => ?_)
    · exact hback_1 _ (by (try dsimp only); (repeat' apply And.intro) <;> first | with_reducible assumption | first | lia | grind [zu_at, zu_atL, zvn]) (by (try dsimp only); first | lia | grind [zu_at, zu_atL, zvn]) (by (try dsimp only); first | lia | grind [zu_at, zu_atL, zvn])
    refine zw_some ?_
    first | exact True.intro | ((try dsimp only); (repeat' apply And.intro) <;> first | with_reducible assumption | first | lia | grind [zu_at, zu_atL, zvn])
  refine zw_ifc (lg_cmp_le _ _) (fun c3 => ?_) (fun c3 => ?_)
  · refine zw_zb0 (sf_X9_isAnswer s_1_0 v2_0 f15 (by first | with_reducible assumption | exact ⟨by with_reducible assumption, by with_reducible assumption⟩ | first | lia | grind [zu_at, zu_atL, zvn])) (fun o_24 ho_24 => ?_)
    obtain ⟨ho_24_0, ho_24_1, ho_24_2, ho_24_3, ho_24_4, ho_24_5⟩ := ho_24
    refine zw_if (fun c4 => ?_) (fun c4 => ?_)
    · exact hj_21 _ (by first | exact True.intro | ((try dsimp only); (repeat' apply And.intro) <;> first | with_reducible assumption | first | lia | grind [zu_at, zu_atL, zvn]))
    refine zw_ifc (lg_cmp_le _ _) (fun c5 => ?_) (fun c5 => ?_)
    · exact hj_21 _ (by first | exact True.intro | ((try dsimp only); (repeat' apply And.intro) <;> first | with_reducible assumption | first | lia | grind [zu_at, zu_atL, zvn]))
    exact hj_21 _ (by first | exact True.intro | ((try dsimp only); (repeat' apply And.intro) <;> first | with_reducible assumption | first | lia | grind [zu_at, zu_atL, zvn]))
  exact hj_21 _ (by first | exact True.intro | ((try dsimp only); (repeat' apply And.intro) <;> first | with_reducible assumption | first | lia | grind [zu_at, zu_atL, zvn]))
set_option maxHeartbeats 4000000 in
set_option maxRecDepth 100000 in
theorem sf_X9_castsOf (v1_0 : Int32) (f2 : Nat → Int32) (f4 : Nat → Int32) (f5 : Nat → Int32) (h_v1_0 : 0 ≤ v1_0 ∧ v1_0 ≤ 14) (h_f4 : (∀ i : Nat, 0 ≤ f4 i ∧ f4 i ≤ 13)) : zw (fn_X9_castsOf v1_0 f2 f4 f5) (fun r => True) := by
  unfold fn_X9_castsOf
  refine zw_zl32 (fun s_1 => 0 ≤ s_1.2 ∧ s_1.2 ≤ 14 ∧ s_1.2 ≤ v1_0) (fun s_1 => 14 - s_1.2) (by (try dsimp only); first | with_reducible assumption | grind [zu_at, zu_atL, zvn] | ((repeat' apply And.intro) <;> first | with_reducible assumption | first | lia | grind [zu_at, zu_atL, zvn])) (by (try dsimp only); first | lia | grind [zu_at, zu_atL, zvn]) (fun s_1 back_1 Hback_1 hback_1 => ?_)
  obtain ⟨s_1_0, s_1_1⟩ := s_1
  try dsimp only at Hback_1 hback_1
  obtain ⟨Hback_1_0, Hback_1_1, Hback_1_2⟩ := Hback_1
  refine zw_if (fun c1 => ?_) (fun c1 => ?_)
  · refine zw_some ?_
    first | exact True.intro | ((try dsimp only); first | with_reducible assumption | grind [zu_at, zu_atL, zvn] | ((repeat' apply And.intro) <;> first | with_reducible assumption | first | lia | grind [zu_at, zu_atL, zvn]))
  refine zw_zl32 (fun s_3 => 0 ≤ s_3.2 ∧ s_3.2 ≤ 2) (fun s_3 => 2 - s_3.2) (by (try dsimp only); first | with_reducible assumption | grind [zu_at, zu_atL, zvn] | ((repeat' apply And.intro) <;> first | with_reducible assumption | first | lia | grind [zu_at, zu_atL, zvn])) (by (try dsimp only); first | lia | grind [zu_at, zu_atL, zvn]) (fun s_3 back_3 Hback_3 hback_3 => ?_)
  obtain ⟨s_3_0, s_3_1⟩ := s_3
  try dsimp only at Hback_3 hback_3
  obtain ⟨Hback_3_0, Hback_3_1⟩ := Hback_3
  refine zw_if (fun c2 => ?_) (fun c2 => ?_)
  · exact hback_1 _ (by (try dsimp only); first | with_reducible assumption | grind [zu_at, zu_atL, zvn] | ((repeat' apply And.intro) <;> first | with_reducible assumption | first | lia | grind [zu_at, zu_atL, zvn])) (by (try dsimp only); first | lia | grind [zu_at, zu_atL, zvn]) (by (try dsimp only); first | lia | grind [zu_at, zu_atL, zvn])
  refine zw_zb0 (sf_X4_madeOf s_1_1 s_3_1 v1_0 f2 (by first | with_reducible assumption | exact ⟨by with_reducible assumption, by with_reducible assumption⟩ | first | lia | grind [zu_at, zu_atL, zvn])) (fun o_5 ho_5 => ?_)
  refine zw_if (fun c3 => ?_) (fun c3 => ?_)
  · exact hback_3 _ (by (try dsimp only); first | with_reducible assumption | grind [zu_at, zu_atL, zvn] | ((repeat' apply And.intro) <;> first | with_reducible assumption | first | lia | grind [zu_at, zu_atL, zvn])) (by (try dsimp only); first | lia | grind [zu_at, zu_atL, zvn]) (by (try dsimp only); first | lia | grind [zu_at, zu_atL, zvn])
  refine zw_zb0 (sf_X9_formatOf o_5 v1_0 f4 f5 (by first | with_reducible assumption | exact ⟨by with_reducible assumption, by with_reducible assumption⟩ | first | lia | grind [zu_at, zu_atL, zvn]) (by first | with_reducible assumption | exact ⟨by with_reducible assumption, by with_reducible assumption⟩ | first | lia | grind [zu_at, zu_atL, zvn])) (fun o_10 ho_10 => ?_)
  refine zw_zb0 (sf_X9_formatOf s_1_1 v1_0 f4 f5 (by first | with_reducible assumption | exact ⟨by with_reducible assumption, by with_reducible assumption⟩ | first | lia | grind [zu_at, zu_atL, zvn]) (by first | with_reducible assumption | exact ⟨by with_reducible assumption, by with_reducible assumption⟩ | first | lia | grind [zu_at, zu_atL, zvn])) (fun o_14 ho_14 => ?_)
  refine zw_if (fun c4 => ?_) (fun c4 => ?_)
  · exact hback_3 _ (by (try dsimp only); first | with_reducible assumption | grind [zu_at, zu_atL, zvn] | ((repeat' apply And.intro) <;> first | with_reducible assumption | first | lia | grind [zu_at, zu_atL, zvn])) (by (try dsimp only); first | lia | grind [zu_at, zu_atL, zvn]) (by (try dsimp only); first | lia | grind [zu_at, zu_atL, zvn])
  exact hback_3 _ (by (try dsimp only); first | with_reducible assumption | grind [zu_at, zu_atL, zvn] | ((repeat' apply And.intro) <;> first | with_reducible assumption | first | lia | grind [zu_at, zu_atL, zvn])) (by (try dsimp only); first | lia | grind [zu_at, zu_atL, zvn]) (by (try dsimp only); first | lia | grind [zu_at, zu_atL, zvn])
set_option maxHeartbeats 4000000 in
set_option maxRecDepth 100000 in
theorem sf_X9_priceOf (v0_0 : Int32) (v0_5 : Int32) (v1_0 : Int32) (f2 : Nat → Int32) (f4 : Nat → Int32) (f5 : Nat → Int32) (f6 : Nat → Int32) (h_v0_0 : 0 ≤ v0_0 ∧ v0_0 ≤ 4) (h_v1_0 : 0 ≤ v1_0 ∧ v1_0 ≤ 14) (h_f4 : (∀ i : Nat, 0 ≤ f4 i ∧ f4 i ≤ 13)) : zw (fn_X9_priceOf v0_0 v0_5 v1_0 f2 f4 f5 f6) (fun r => True) := by
  unfold fn_X9_priceOf
  refine zw_zb0 (sf_X9_castsOf v1_0 f2 f4 f5 (by first | with_reducible assumption | exact ⟨by with_reducible assumption, by with_reducible assumption⟩ | first | lia | grind [zu_at, zu_atL, zvn]) (by first | with_reducible assumption | exact ⟨by with_reducible assumption, by with_reducible assumption⟩ | first | lia | grind [zu_at, zu_atL, zvn])) (fun o_1 ho_1 => ?_)
  refine zw_zl32 (fun s_5 => 0 ≤ s_5.2 ∧ s_5.2 ≤ 14 ∧ s_5.2 ≤ v1_0) (fun s_5 => 14 - s_5.2) (by (try dsimp only); first | with_reducible assumption | grind [zu_at, zu_atL, zvn] | ((repeat' apply And.intro) <;> first | with_reducible assumption | first | lia | grind [zu_at, zu_atL, zvn])) (by (try dsimp only); first | lia | grind [zu_at, zu_atL, zvn]) (fun s_5 back_5 Hback_5 hback_5 => ?_)
  obtain ⟨s_5_0, s_5_1⟩ := s_5
  try dsimp only at Hback_5 hback_5
  obtain ⟨Hback_5_0, Hback_5_1, Hback_5_2⟩ := Hback_5
  refine zw_if (fun c1 => ?_) (fun c1 => ?_)
  · refine zw_some ?_
    first | exact True.intro | ((try dsimp only); first | with_reducible assumption | grind [zu_at, zu_atL, zvn] | ((repeat' apply And.intro) <;> first | with_reducible assumption | first | lia | grind [zu_at, zu_atL, zvn]))
  refine zw_zb0 (sf_X9_formatOf s_5_1 v1_0 f4 f5 (by first | with_reducible assumption | exact ⟨by with_reducible assumption, by with_reducible assumption⟩ | first | lia | grind [zu_at, zu_atL, zvn]) (by first | with_reducible assumption | exact ⟨by with_reducible assumption, by with_reducible assumption⟩ | first | lia | grind [zu_at, zu_atL, zvn])) (fun o_7 ho_7 => ?_)
  refine zw_zb0 (sf_X9_hasFormat o_7 v0_0 (by first | with_reducible assumption | exact ⟨by with_reducible assumption, by with_reducible assumption⟩ | first | lia | grind [zu_at, zu_atL, zvn])) (fun o_11 ho_11 => ?_)
  obtain ⟨ho_11_0, ho_11_1, ho_11_2, ho_11_3, ho_11_4, ho_11_5⟩ := ho_11
  refine zw_if (fun c2 => ?_) (fun c2 => ?_)
  · exact hback_5 _ (by (try dsimp only); first | with_reducible assumption | grind [zu_at, zu_atL, zvn] | ((repeat' apply And.intro) <;> first | with_reducible assumption | first | lia | grind [zu_at, zu_atL, zvn])) (by (try dsimp only); first | lia | grind [zu_at, zu_atL, zvn]) (by (try dsimp only); first | lia | grind [zu_at, zu_atL, zvn])
  refine zw_zg32 4 (by decide) (by (try dsimp only); first | lia | grind [zu_at, zu_atL, zvn]) ?_
  exact hback_5 _ (by (try dsimp only); first | with_reducible assumption | grind [zu_at, zu_atL, zvn] | ((repeat' apply And.intro) <;> first | with_reducible assumption | first | lia | grind [zu_at, zu_atL, zvn])) (by (try dsimp only); first | lia | grind [zu_at, zu_atL, zvn]) (by (try dsimp only); first | lia | grind [zu_at, zu_atL, zvn])
set_option maxHeartbeats 4000000 in
set_option maxRecDepth 100000 in
theorem sf_X1_keep (p2 : Int32) (p3 : Int32) (v0_3 : Int32) (v0_6 : Int32) (v0_7 : Int32) (v0_8 : Int32) (n1 : Nat) (f1 : Nat → Int32) (v3_0 : Int32) (f4 : Nat → Int32) (n5 : Nat) (f5 : Nat → Int32) (f7 : Nat → Int64) (h_v0_3 : 0 ≤ v0_3 ∧ v0_3 ≤ 14) (h_v0_6 : 0 ≤ v0_6 ∧ v0_6 ≤ 1024) (h_n1 : n1 ≤ 1024) (hN_n1 : 0 ≤ Int32.ofNat n1 ∧ Int32.ofNat n1 ≤ 1024) (h_v3_0 : 0 ≤ v3_0 ∧ v3_0 ≤ 14) (h_n5 : n5 ≤ 14336) (hN_n5 : 0 ≤ Int32.ofNat n5 ∧ Int32.ofNat n5 ≤ 14336) (hr_0 : v0_6 ≤ (Int32.ofNat n1)) : zw (fn_X1_keep p2 p3 v0_3 v0_6 v0_7 v0_8 n1 f1 v3_0 f4 n5 f5 f7) (fun r => 0 ≤ r.1 ∧ r.1 ≤ 1024 ∧ r.1 ≤ (Int32.ofNat n1)) := by
  unfold fn_X1_keep
  refine zw_if (fun c1 => ?_) (fun c1 => ?_)
  · refine zw_zgN (by (try dsimp only); first | lia | grind [zu_at, zu_atL, zvn]) (by (try dsimp only); first | lia | grind [zu_at, zu_atL, zvn]) ?_
    obtain ⟨hm1, hm2⟩ := zmul14 v0_6 v0_3 (by lia) (by lia) (by lia) (by lia)
    refine zw_zl32 (fun s_3 => 0 ≤ s_3.1 ∧ s_3.1 ≤ 14336 ∧ 0 ≤ s_3.2.1 ∧ s_3.2.1 ≤ 14 ∧ s_3.2.1 ≤ v3_0 ∧ (v0_6 * v0_3) ≤ s_3.1) (fun s_3 => 14 - s_3.2.1) (by (try dsimp only); (repeat' apply And.intro) <;> first | with_reducible assumption | first | lia | grind [zu_at, zu_atL, zvn]) (by (try dsimp only); first | lia | grind [zu_at, zu_atL, zvn]) (fun s_3 back_3 Hback_3 hback_3 => ?_)
    obtain ⟨s_3_0, s_3_1, s_3_2⟩ := s_3
    try dsimp only at Hback_3 hback_3
    obtain ⟨Hback_3_0, Hback_3_1, Hback_3_2, Hback_3_3, Hback_3_4, Hback_3_5⟩ := Hback_3
    refine zw_if (fun c2 => ?_) (fun c2 => ?_)
    · refine zw_zj (fun _ => True) (fun s_5 Hj_5 => ?_) (fun j_5 hj_5 => ?_)
      · refine zw_some ?_
        first | exact True.intro | ((try dsimp only); (repeat' apply And.intro) <;> first | with_reducible assumption | first | lia | grind [zu_at, zu_atL, zvn])
      refine zw_if (fun c3 => ?_) (fun c3 => ?_)
      · exact hj_5 _ (by first | exact True.intro | ((try dsimp only); (repeat' apply And.intro) <;> first | with_reducible assumption | first | lia | grind [zu_at, zu_atL, zvn]))
      refine zw_if (fun c4 => ?_) (fun c4 => ?_)
      · refine zw_some ?_
        first | exact True.intro | ((try dsimp only); (repeat' apply And.intro) <;> first | with_reducible assumption | first | lia | grind [zu_at, zu_atL, zvn])
      exact hj_5 _ (by first | exact True.intro | ((try dsimp only); (repeat' apply And.intro) <;> first | with_reducible assumption | first | lia | grind [zu_at, zu_atL, zvn]))
    refine zw_zb0 (sf_X9_isAnswer s_3_1 v3_0 f4 (by first | with_reducible assumption | exact ⟨by with_reducible assumption, by with_reducible assumption⟩ | first | lia | grind [zu_at, zu_atL, zvn])) (fun o_8 ho_8 => ?_)
    obtain ⟨ho_8_0, ho_8_1, ho_8_2, ho_8_3, ho_8_4, ho_8_5⟩ := ho_8
    refine zw_if (fun c5 => ?_) (fun c5 => ?_)
    · exact hback_3 _ (by (try dsimp only); (repeat' apply And.intro) <;> first | with_reducible assumption | first | lia | grind [zu_at, zu_atL, zvn]) (by (try dsimp only); first | lia | grind [zu_at, zu_atL, zvn]) (by (try dsimp only); first | lia | grind [zu_at, zu_atL, zvn])
    refine zw_if (fun c6 => ?_) (fun c6 => ?_)
    · exact hback_3 _ (by (try dsimp only); (repeat' apply And.intro) <;> first | with_reducible assumption | first | lia | grind [zu_at, zu_atL, zvn]) (by (try dsimp only); first | lia | grind [zu_at, zu_atL, zvn]) (by (try dsimp only); first | lia | grind [zu_at, zu_atL, zvn])
    refine zw_zg32 14 (by decide) (by (try dsimp only); first | lia | grind [zu_at, zu_atL, zvn]) ?_
    refine zw_zgN (by (try dsimp only); first | lia | grind [zu_at, zu_atL, zvn]) (by (try dsimp only); first | lia | grind [zu_at, zu_atL, zvn]) ?_
    refine zw_zn1 ?_
    exact hback_3 _ (by (try dsimp only); (repeat' apply And.intro) <;> first | with_reducible assumption | first | lia | grind [zu_at, zu_atL, zvn]) (by (try dsimp only); first | lia | grind [zu_at, zu_atL, zvn]) (by (try dsimp only); first | lia | grind [zu_at, zu_atL, zvn])
  refine zw_some ?_
  first | exact True.intro | ((try dsimp only); (repeat' apply And.intro) <;> first | with_reducible assumption | first | lia | grind [zu_at, zu_atL, zvn])
