set_option maxHeartbeats 4000000 in
set_option maxRecDepth 100000 in
theorem sf_X0_whyNot (p2 : Int32) (p3 : Int32) (v1_0 : Int32) (f3 : Nat → Int32) (f4 : Nat → Int32) (f6 : Nat → Int32) (f7 : Nat → Int64) (f8 : Nat → Int64) (f10 : Nat → Int64) (v11_0 : Int32) (f12 : Nat → Int32) (f13 : Nat → Int32) (f14 : Nat → Int32) (f15 : Nat → Int32) (f16 : Nat → Int32) (f17 : Nat → Int32) (h_p2 : 0 ≤ p2 ∧ p2 ≤ 13) (h_v1_0 : 0 ≤ v1_0 ∧ v1_0 ≤ 4) (h_f3 : (∀ i : Nat, 0 ≤ f3 i ∧ f3 i ≤ 13)) (h_v11_0 : 0 ≤ v11_0 ∧ v11_0 ≤ 14) : zw (fn_X0_whyNot p2 p3 v1_0 f3 f4 f6 f7 f8 f10 v11_0 f12 f13 f14 f15 f16 f17) (fun r => 0 ≤ r.1 ∧ r.1 ≤ 6) := by
  unfold fn_X0_whyNot
  refine zw_zg32 14 (by decide) (by (try dsimp only); first | lia | grind [zu_at, zu_atL, zvn]) ?_
  refine zw_zg32 14 (by decide) (by (try dsimp only); first | lia | grind [zu_at, zu_atL, zvn]) ?_
  refine zw_zj (fun s_3 => 0 ≤ s_3 ∧ s_3 ≤ 1) (fun s_3 Hj_3 => ?_) (fun j_3 hj_3 => ?_)
  · obtain ⟨Hj_3_0, Hj_3_1⟩ := Hj_3
    refine zw_zb0 (sf_X9_hasFormat p3 v1_0 (by first | with_reducible assumption | exact ⟨by with_reducible assumption, by with_reducible assumption⟩ | first | lia | grind [zu_at, zu_atL, zvn])) (fun o_4 ho_4 => ?_)
    obtain ⟨ho_4_0, ho_4_1, ho_4_2, ho_4_3, ho_4_4, ho_4_5⟩ := ho_4
    refine zw_if (fun c1 => ?_) (fun c1 => ?_)
    · refine zw_some ?_
      first | exact True.intro | ((try dsimp only); (repeat' apply And.intro) <;> first | with_reducible assumption | first | lia | grind [zu_at, zu_atL, zvn])
    refine zw_if (fun c2 => ?_) (fun c2 => ?_)
    · refine zw_some ?_
      first | exact True.intro | ((try dsimp only); (repeat' apply And.intro) <;> first | with_reducible assumption | first | lia | grind [zu_at, zu_atL, zvn])
    refine zw_zg32 14 (by decide) (by (try dsimp only); first | lia | grind [zu_at, zu_atL, zvn]) ?_
    refine zw_zb0 (sf_X0_readLong ((p2 * 25) + 1) f6 (by first | with_reducible assumption | exact ⟨by with_reducible assumption, by with_reducible assumption⟩ | first | lia | grind [zu_at, zu_atL, zvn])) (fun o_11 ho_11 => ?_)
    refine zw_zg32 14 (by decide) (by (try dsimp only); first | lia | grind [zu_at, zu_atL, zvn]) ?_
    refine zw_zb0 (sf_X0_readLong ((p2 * 25) + 9) f6 (by first | with_reducible assumption | exact ⟨by with_reducible assumption, by with_reducible assumption⟩ | first | lia | grind [zu_at, zu_atL, zvn])) (fun o_16 ho_16 => ?_)
    refine zw_zb0 (sf_X0_readLong ((p2 * 25) + 17) f6 (by first | with_reducible assumption | exact ⟨by with_reducible assumption, by with_reducible assumption⟩ | first | lia | grind [zu_at, zu_atL, zvn])) (fun o_20 ho_20 => ?_)
    refine zw_zb0 (sf_X6_lowest p2 v11_0 f12 f13 f14 (vp_updL f7 p2.toNatClampNeg o_11) (vp_updL f8 p2.toNatClampNeg o_16) (by first | with_reducible assumption | exact ⟨by with_reducible assumption, by with_reducible assumption⟩ | first | lia | grind [zu_at, zu_atL, zvn]) (by first | with_reducible assumption | exact ⟨by with_reducible assumption, by with_reducible assumption⟩ | first | lia | grind [zu_at, zu_atL, zvn])) (fun o_24 ho_24 => ?_)
    refine zw_ifc (lg_cmp_le _ _) (fun c3 => ?_) (fun c3 => ?_)
    · refine zw_zb0 (sf_X6_highest p2 v11_0 f12 f13 f14 (vp_updL f8 p2.toNatClampNeg o_16) (vp_updL f7 p2.toNatClampNeg o_11) (by first | with_reducible assumption | exact ⟨by with_reducible assumption, by with_reducible assumption⟩ | first | lia | grind [zu_at, zu_atL, zvn]) (by first | with_reducible assumption | exact ⟨by with_reducible assumption, by with_reducible assumption⟩ | first | lia | grind [zu_at, zu_atL, zvn])) (fun o_29 ho_29 => ?_)
      refine zw_ifc (lg_cmp_ge _ _) (fun c4 => ?_) (fun c4 => ?_)
      · refine zw_zb0 (sf_X7_errorOf p2 v1_0 v11_0 f3 (upd f4 (f3 p2.toNatClampNeg).toNatClampNeg p3) f15 f12 f13 (vp_updL f10 p2.toNatClampNeg o_20) f14 (vp_updL f7 p2.toNatClampNeg o_11) (vp_updL f8 p2.toNatClampNeg o_16) (by first | with_reducible assumption | exact ⟨by with_reducible assumption, by with_reducible assumption⟩ | first | lia | grind [zu_at, zu_atL, zvn]) (by first | with_reducible assumption | exact ⟨by with_reducible assumption, by with_reducible assumption⟩ | first | lia | grind [zu_at, zu_atL, zvn]) (by first | with_reducible assumption | exact ⟨by with_reducible assumption, by with_reducible assumption⟩ | first | lia | grind [zu_at, zu_atL, zvn]) (by first | with_reducible assumption | exact ⟨by with_reducible assumption, by with_reducible assumption⟩ | first | lia | grind [zu_at, zu_atL, zvn])) (fun o_34 ho_34 => ?_)
        refine zw_ifc (lg_cmp_ge _ _) (fun c5 => ?_) (fun c5 => ?_)
        · refine zw_zb0 (sf_X6_amountOf p2 (vp_updL f7 p2.toNatClampNeg o_11) (vp_updL f8 p2.toNatClampNeg o_16) (by first | with_reducible assumption | exact ⟨by with_reducible assumption, by with_reducible assumption⟩ | first | lia | grind [zu_at, zu_atL, zvn])) (fun o_39 ho_39 => ?_)
          refine zw_zb0 (sf_X9_mostOf p3 v1_0 f16 (by first | with_reducible assumption | exact ⟨by with_reducible assumption, by with_reducible assumption⟩ | first | lia | grind [zu_at, zu_atL, zvn])) (fun o_43 ho_43 => ?_)
          refine zw_ifc (lg_cmp_le _ _) (fun c6 => ?_) (fun c6 => ?_)
          · refine zw_zb0 (sf_X9_isAnswer p2 v11_0 f17 (by first | with_reducible assumption | exact ⟨by with_reducible assumption, by with_reducible assumption⟩ | first | lia | grind [zu_at, zu_atL, zvn])) (fun o_48 ho_48 => ?_)
            obtain ⟨ho_48_0, ho_48_1, ho_48_2, ho_48_3, ho_48_4, ho_48_5⟩ := ho_48
            refine zw_if (fun c7 => ?_) (fun c7 => ?_)
            · refine zw_some ?_
              first | exact True.intro | ((try dsimp only); (repeat' apply And.intro) <;> first | with_reducible assumption | first | lia | grind [zu_at, zu_atL, zvn])
            refine zw_ifc (lg_cmp_le _ _) (fun c8 => ?_) (fun c8 => ?_)
            · refine zw_some ?_
              first | exact True.intro | ((try dsimp only); (repeat' apply And.intro) <;> first | with_reducible assumption | first | lia | grind [zu_at, zu_atL, zvn])
            refine zw_some ?_
            first | exact True.intro | ((try dsimp only); (repeat' apply And.intro) <;> first | with_reducible assumption | first | lia | grind [zu_at, zu_atL, zvn])
          refine zw_some ?_
          first | exact True.intro | ((try dsimp only); (repeat' apply And.intro) <;> first | with_reducible assumption | first | lia | grind [zu_at, zu_atL, zvn])
        refine zw_some ?_
        first | exact True.intro | ((try dsimp only); (repeat' apply And.intro) <;> first | with_reducible assumption | first | lia | grind [zu_at, zu_atL, zvn])
      refine zw_some ?_
      first | exact True.intro | ((try dsimp only); (repeat' apply And.intro) <;> first | with_reducible assumption | first | lia | grind [zu_at, zu_atL, zvn])
    refine zw_some ?_
    first | exact True.intro | ((try dsimp only); (repeat' apply And.intro) <;> first | with_reducible assumption | first | lia | grind [zu_at, zu_atL, zvn])
  refine zw_zj (fun _ => True) (fun s_54 Hj_54 => ?_) (fun j_54 hj_54 => ?_)
  · exact hj_3 _ (by first | exact True.intro | ((try dsimp only); (repeat' apply And.intro) <;> first | with_reducible assumption | first | lia | grind [zu_at, zu_atL, zvn]))
  refine zw_if (fun c9 => ?_) (fun c9 => ?_)
  · exact hj_54 _ (by first | exact True.intro | ((try dsimp only); (repeat' apply And.intro) <;> first | with_reducible assumption | first | lia | grind [zu_at, zu_atL, zvn]))
  refine zw_if (fun c10 => ?_) (fun c10 => ?_)
  · exact hj_54 _ (by first | exact True.intro | ((try dsimp only); (repeat' apply And.intro) <;> first | with_reducible assumption | first | lia | grind [zu_at, zu_atL, zvn]))
  exact hj_3 _ (by first | exact True.intro | ((try dsimp only); (repeat' apply And.intro) <;> first | with_reducible assumption | first | lia | grind [zu_at, zu_atL, zvn]))
