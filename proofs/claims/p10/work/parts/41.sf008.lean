set_option maxHeartbeats 4000000 in
set_option maxRecDepth 100000 in
theorem sf_X6_isWide (p1 : Int32) (f1 : Nat → Int32) (h_f1 : (∀ i : Nat, 0 ≤ f1 i ∧ f1 i ≤ 1)) : zw (fn_X6_isWide p1 f1) (fun r => 0 ≤ r ∧ r ≤ 1 ∧ (¬ r = 0 → 0 ≤ p1 ∧ 1 ≤ r ∧ p1 ≤ 13 ∧ (f1 p1.toNatClampNeg) ≤ 1 ∧ 1 ≤ (f1 p1.toNatClampNeg)) ∧ (r = 1 → 0 ≤ p1 ∧ p1 ≤ 13 ∧ (f1 p1.toNatClampNeg) ≤ 1 ∧ 1 ≤ (f1 p1.toNatClampNeg) ∧ (f1 p1.toNatClampNeg) ≤ r) ∧ (¬ r = 1 → r ≤ 0)) := by
  unfold fn_X6_isWide
  refine zw_if (fun c1 => ?_) (fun c1 => ?_)
  · refine zw_some ?_
    first | exact True.intro | ((try dsimp only); (repeat' apply And.intro) <;> first | with_reducible assumption | first | lia | grind [zu_at, zu_atL, zvn])
  refine zw_if (fun c2 => ?_) (fun c2 => ?_)
  · refine zw_some ?_
    first | exact True.intro | ((try dsimp only); (repeat' apply And.intro) <;> first | with_reducible assumption | first | lia | grind [zu_at, zu_atL, zvn])
  refine zw_zg32 14 (by decide) (by (try dsimp only); first | lia | grind [zu_at, zu_atL, zvn]) ?_
  refine zw_if (fun c3 => ?_) (fun c3 => ?_)
  · refine zw_some ?_
    first | exact True.intro | ((try dsimp only); (repeat' apply And.intro) <;> first | with_reducible assumption | first | lia | grind [zu_at, zu_atL, zvn])
  refine zw_some ?_
  first | exact True.intro | ((try dsimp only); (repeat' apply And.intro) <;> first | with_reducible assumption | first | lia | grind [zu_at, zu_atL, zvn])
set_option maxHeartbeats 4000000 in
set_option maxRecDepth 100000 in
theorem sf_X6_fill (p2 : Int32) (p3 : Int32) (v1_0 : Int32) (f2 : Nat → Int32) (f3 : Nat → Int32) (f4 : Nat → Int32) (f5 : Nat → Int64) (f6 : Nat → Int64) (f7 : Nat → Int32) (h_v1_0 : 0 ≤ v1_0 ∧ v1_0 ≤ 14) (h_f7 : (∀ i : Nat, 0 ≤ f7 i ∧ f7 i ≤ 1)) : zw (fn_X6_fill p2 p3 v1_0 f2 f3 f4 f5 f6 f7) (fun r => (∀ i : Nat, 0 ≤ r.2.2 i ∧ r.2.2 i ≤ 1)) := by
  unfold fn_X6_fill
  refine zw_zl32 (fun s_1 => (∀ i : Nat, 0 ≤ s_1.2.2.2 i ∧ s_1.2.2.2 i ≤ 1) ∧ 0 ≤ s_1.1 ∧ s_1.1 ≤ 14 ∧ s_1.1 ≤ v1_0) (fun s_1 => 14 - s_1.1) (by (try dsimp only); (repeat' apply And.intro) <;> first | with_reducible assumption | first | lia | grind [zu_at, zu_atL, zvn]) (by (try dsimp only); first | lia | grind [zu_at, zu_atL, zvn]) (fun s_1 back_1 Hback_1 hback_1 => ?_)
  obtain ⟨s_1_0, s_1_1, s_1_2, s_1_3⟩ := s_1
  try dsimp only at Hback_1 hback_1
  obtain ⟨Hback_1_0, Hback_1_1, Hback_1_2, Hback_1_3⟩ := Hback_1
  refine zw_if (fun c1 => ?_) (fun c1 => ?_)
  · refine zw_some ?_
    first | exact True.intro | ((try dsimp only); (repeat' apply And.intro) <;> first | with_reducible assumption | ((try clear hback_1); first | lia | grind [zu_at, zu_atL, zvn]))
  refine zw_zj (fun s_3 => True) (fun s_3 Hj_3 => ?_) (fun j_3 hj_3 => ?_)
  · refine zw_zb0 (sf_X6_lowest s_1_0 v1_0 f2 f3 f4 s_1_1 s_1_2 (by first | with_reducible assumption | exact ⟨by with_reducible assumption, by with_reducible assumption⟩ | ((try clear hback_1); (try clear hj_3); first | lia | grind [zu_at, zu_atL, zvn])) (by first | with_reducible assumption | exact ⟨by with_reducible assumption, by with_reducible assumption⟩ | ((try clear hback_1); (try clear hj_3); first | lia | grind [zu_at, zu_atL, zvn]))) (fun o_4 ho_4 => ?_)
    refine zw_zb0 (sf_X6_held (o_4 - s_3)) (fun o_8 ho_8 => ?_)
    refine zw_zg32 14 (by decide) (by (try dsimp only); ((try clear hback_1); (try clear hj_3); first | lia | grind [zu_at, zu_atL, zvn])) ?_
    refine zw_zb0 (sf_X6_highest s_1_0 v1_0 f2 f3 f4 s_1_2 (vp_updL s_1_1 s_1_0.toNatClampNeg o_8) (by first | with_reducible assumption | exact ⟨by with_reducible assumption, by with_reducible assumption⟩ | ((try clear hback_1); (try clear hj_3); first | lia | grind [zu_at, zu_atL, zvn])) (by first | with_reducible assumption | exact ⟨by with_reducible assumption, by with_reducible assumption⟩ | ((try clear hback_1); (try clear hj_3); first | lia | grind [zu_at, zu_atL, zvn]))) (fun o_13 ho_13 => ?_)
    refine zw_zb0 (sf_X6_held (o_13 + s_3)) (fun o_17 ho_17 => ?_)
    refine zw_zb0 (sf_X6_amountOf s_1_0 (vp_updL s_1_1 s_1_0.toNatClampNeg o_8) (vp_updL s_1_2 s_1_0.toNatClampNeg o_17) (by first | with_reducible assumption | exact ⟨by with_reducible assumption, by with_reducible assumption⟩ | ((try clear hback_1); (try clear hj_3); first | lia | grind [zu_at, zu_atL, zvn]))) (fun o_21 ho_21 => ?_)
    refine zw_ifc (lg_cmp_gt _ _) (fun c2 => ?_) (fun c2 => ?_)
    · exact hback_1 _ (by (try dsimp only); (repeat' apply And.intro) <;> first | with_reducible assumption | ((try clear hback_1); (try clear hj_3); first | lia | grind [zu_at, zu_atL, zvn])) (by (try dsimp only); ((try clear hback_1); (try clear hj_3); first | lia | grind [zu_at, zu_atL, zvn])) (by (try dsimp only); ((try clear hback_1); (try clear hj_3); first | lia | grind [zu_at, zu_atL, zvn]))
    refine zw_zb0 (sf_X4_madeOf s_1_0 0 v1_0 f3 (by first | with_reducible assumption | exact ⟨by with_reducible assumption, by with_reducible assumption⟩ | ((try clear hback_1); (try clear hj_3); first | lia | grind [zu_at, zu_atL, zvn]))) (fun o_26 ho_26 => ?_)
    refine zw_zb0 (sf_X6_isWide o_26 s_1_3 (by first | with_reducible assumption | exact ⟨by with_reducible assumption, by with_reducible assumption⟩ | ((try clear hback_1); (try clear hj_3); first | lia | grind [zu_at, zu_atL, zvn]))) (fun o_30 ho_30 => ?_)
    obtain ⟨ho_30_0, ho_30_1, ho_30_2, ho_30_3, ho_30_4⟩ := ho_30
    refine zw_if (fun c3 => ?_) (fun c3 => ?_)
    · refine zw_zb0 (sf_X4_madeOf s_1_0 1 v1_0 f3 (by first | with_reducible assumption | exact ⟨by with_reducible assumption, by with_reducible assumption⟩ | ((try clear hback_1); (try clear hj_3); first | lia | grind [zu_at, zu_atL, zvn]))) (fun o_35 ho_35 => ?_)
      refine zw_zb0 (sf_X6_isWide o_35 s_1_3 (by first | with_reducible assumption | exact ⟨by with_reducible assumption, by with_reducible assumption⟩ | ((try clear hback_1); (try clear hj_3); first | lia | grind [zu_at, zu_atL, zvn]))) (fun o_39 ho_39 => ?_)
      obtain ⟨ho_39_0, ho_39_1, ho_39_2, ho_39_3, ho_39_4⟩ := ho_39
      refine zw_if (fun c4 => ?_) (fun c4 => ?_)
      · exact hback_1 _ (by (try dsimp only); (repeat' apply And.intro) <;> first | with_reducible assumption | ((try clear hback_1); (try clear hj_3); first | lia | grind [zu_at, zu_atL, zvn])) (by (try dsimp only); ((try clear hback_1); (try clear hj_3); first | lia | grind [zu_at, zu_atL, zvn])) (by (try dsimp only); ((try clear hback_1); (try clear hj_3); first | lia | grind [zu_at, zu_atL, zvn]))
      exact hback_1 _ (by (try dsimp only); (repeat' apply And.intro) <;> first | with_reducible assumption | ((try clear hback_1); (try clear hj_3); first | lia | grind [zu_at, zu_atL, zvn])) (by (try dsimp only); ((try clear hback_1); (try clear hj_3); first | lia | grind [zu_at, zu_atL, zvn])) (by (try dsimp only); ((try clear hback_1); (try clear hj_3); first | lia | grind [zu_at, zu_atL, zvn]))
    exact hback_1 _ (by (try dsimp only); (repeat' apply And.intro) <;> first | with_reducible assumption | ((try clear hback_1); (try clear hj_3); first | lia | grind [zu_at, zu_atL, zvn])) (by (try dsimp only); ((try clear hback_1); (try clear hj_3); first | lia | grind [zu_at, zu_atL, zvn])) (by (try dsimp only); ((try clear hback_1); (try clear hj_3); first | lia | grind [zu_at, zu_atL, zvn]))
  refine zw_if (fun c5 => ?_) (fun c5 => ?_)
  · exact hj_3 _ (by first | exact True.intro | ((try dsimp only); (repeat' apply And.intro) <;> first | with_reducible assumption | ((try clear hback_1); (try clear hj_3); first | lia | grind [zu_at, zu_atL, zvn])))
  exact hj_3 _ (by first | exact True.intro | ((try dsimp only); (repeat' apply And.intro) <;> first | with_reducible assumption | ((try clear hback_1); (try clear hj_3); first | lia | grind [zu_at, zu_atL, zvn])))
set_option maxHeartbeats 4000000 in
set_option maxRecDepth 100000 in
theorem sf_X8_whatOf (p2 : Int32) (p3 : Int32) (v1_0 : Int32) (f2 : Nat → Int32) (f3 : Nat → Int32) (f4 : Nat → Int64) (h_p2 : 0 ≤ p2 ∧ p2 ≤ 13) (h_v1_0 : 0 ≤ v1_0 ∧ v1_0 ≤ 14) : zw (fn_X8_whatOf p2 p3 v1_0 f2 f3 f4) (fun r => True) := by
  unfold fn_X8_whatOf
  refine zw_zb0 (sf_X4_madeOf p2 p3 v1_0 f2 (by first | with_reducible assumption | exact ⟨by with_reducible assumption, by with_reducible assumption⟩ | first | lia | grind [zu_at, zu_atL, zvn])) (fun o_1 ho_1 => ?_)
  refine zw_if (fun c1 => ?_) (fun c1 => ?_)
  · refine zw_zb0 (sf_X4_amountOf p2 p3 v1_0 f3 (by first | with_reducible assumption | exact ⟨by with_reducible assumption, by with_reducible assumption⟩ | first | lia | grind [zu_at, zu_atL, zvn])) (fun o_6 ho_6 => ?_)
    refine zw_some ?_
    first | exact True.intro | ((try dsimp only); (repeat' apply And.intro) <;> first | with_reducible assumption | first | lia | grind [zu_at, zu_atL, zvn])
  refine zw_if (fun c2 => ?_) (fun c2 => ?_)
  · refine zw_zb0 (sf_X4_amountOf p2 p3 v1_0 f3 (by first | with_reducible assumption | exact ⟨by with_reducible assumption, by with_reducible assumption⟩ | first | lia | grind [zu_at, zu_atL, zvn])) (fun o_11 ho_11 => ?_)
    refine zw_some ?_
    first | exact True.intro | ((try dsimp only); (repeat' apply And.intro) <;> first | with_reducible assumption | first | lia | grind [zu_at, zu_atL, zvn])
  refine zw_zg32 14 (by decide) (by (try dsimp only); first | lia | grind [zu_at, zu_atL, zvn]) ?_
  refine zw_some ?_
  first | exact True.intro | ((try dsimp only); (repeat' apply And.intro) <;> first | with_reducible assumption | first | lia | grind [zu_at, zu_atL, zvn])
set_option maxHeartbeats 4000000 in
set_option maxRecDepth 100000 in
theorem sf_X8_sample (p3 : Int32) (v1_0 : Int32) (v2_0 : Int32) (f4 : Nat → Int32) (f5 : Nat → Int32) (f6 : Nat → Int32) (f7 : Nat → Int32) (f8 : Nat → Int32) (f9 : Nat → Int32) (f10 : Nat → Int64) (f11 : Nat → Int64) (h_v1_0 : 0 ≤ v1_0 ∧ v1_0 ≤ 4) (h_v2_0 : 0 ≤ v2_0 ∧ v2_0 ≤ 14) (h_f4 : (∀ i : Nat, 0 ≤ f4 i ∧ f4 i ≤ 13)) : zw (fn_X8_sample p3 v1_0 v2_0 f4 f5 f6 f7 f8 f9 f10 f11) (fun r => True) := by
  unfold fn_X8_sample
  refine zw_zl32 (fun s_1 => 0 ≤ s_1.2.1 ∧ s_1.2.1 ≤ 14 ∧ s_1.2.1 ≤ v2_0) (fun s_1 => 14 - s_1.2.1) (by (try dsimp only); (repeat' apply And.intro) <;> first | with_reducible assumption | first | lia | grind [zu_at, zu_atL, zvn]) (by (try dsimp only); first | lia | grind [zu_at, zu_atL, zvn]) (fun s_1 back_1 Hback_1 hback_1 => ?_)
  obtain ⟨s_1_0, s_1_1, s_1_2, s_1_3⟩ := s_1
  try dsimp only at Hback_1 hback_1
  obtain ⟨Hback_1_0, Hback_1_1, Hback_1_2⟩ := Hback_1
  refine zw_if (fun c1 => ?_) (fun c1 => ?_)
  · refine zw_some ?_
    first | exact True.intro | ((try dsimp only); (repeat' apply And.intro) <;> first | with_reducible assumption | ((try clear hback_1); first | lia | grind [zu_at, zu_atL, zvn]))
  refine zw_zb0 (sf_X9_formatOf s_1_1 v2_0 f4 f5 (by first | with_reducible assumption | exact ⟨by with_reducible assumption, by with_reducible assumption⟩ | ((try clear hback_1); first | lia | grind [zu_at, zu_atL, zvn])) (by first | with_reducible assumption | exact ⟨by with_reducible assumption, by with_reducible assumption⟩ | ((try clear hback_1); first | lia | grind [zu_at, zu_atL, zvn]))) (fun o_3 ho_3 => ?_)
  refine zw_zb0 (sf_X9_stepOf o_3 v1_0 f6 (by first | with_reducible assumption | exact ⟨by with_reducible assumption, by with_reducible assumption⟩ | ((try clear hback_1); first | lia | grind [zu_at, zu_atL, zvn]))) (fun o_7 ho_7 => ?_)
  refine zw_zg32 14 (by decide) (by (try dsimp only); ((try clear hback_1); first | lia | grind [zu_at, zu_atL, zvn])) ?_
  refine zw_if (fun c2 => ?_) (fun c2 => ?_)
  · refine zw_zn (fun x_45 ex_45 => ?_)
    refine zw_zb0 (sf_X4_amountOf s_1_1 0 v2_0 f9 (by first | with_reducible assumption | exact ⟨by with_reducible assumption, by with_reducible assumption⟩ | ((try clear hback_1); first | lia | grind [zu_at, zu_atL, zvn]))) (fun o_46 ho_46 => ?_)
    refine zw_zb0 (sf_X4_amountOf s_1_1 1 v2_0 f9 (by first | with_reducible assumption | exact ⟨by with_reducible assumption, by with_reducible assumption⟩ | ((try clear hback_1); first | lia | grind [zu_at, zu_atL, zvn]))) (fun o_50 ho_50 => ?_)
    refine zw_zn (fun x_54 ex_54 => ?_)
    refine zw_zb0 (sf_X11_nearest ((vp_updL s_1_2 s_1_1.toNatClampNeg x_54) s_1_1.toNatClampNeg) (1 : Int64) o_7.toInt64) (fun o_55 ho_55 => ?_)
    exact hback_1 _ (by (try dsimp only); (repeat' apply And.intro) <;> first | with_reducible assumption | ((try clear hback_1); first | lia | grind [zu_at, zu_atL, zvn])) (by (try dsimp only); ((try clear hback_1); first | lia | grind [zu_at, zu_atL, zvn])) (by (try dsimp only); ((try clear hback_1); first | lia | grind [zu_at, zu_atL, zvn]))
  refine zw_zb0 (sf_X8_whatOf s_1_1 0 v2_0 f8 f9 s_1_2 (by first | with_reducible assumption | exact ⟨by with_reducible assumption, by with_reducible assumption⟩ | ((try clear hback_1); first | lia | grind [zu_at, zu_atL, zvn])) (by first | with_reducible assumption | exact ⟨by with_reducible assumption, by with_reducible assumption⟩ | ((try clear hback_1); first | lia | grind [zu_at, zu_atL, zvn]))) (fun o_13 ho_13 => ?_)
  refine zw_zb0 (sf_X8_whatOf s_1_1 1 v2_0 f8 f9 s_1_2 (by first | with_reducible assumption | exact ⟨by with_reducible assumption, by with_reducible assumption⟩ | ((try clear hback_1); first | lia | grind [zu_at, zu_atL, zvn])) (by first | with_reducible assumption | exact ⟨by with_reducible assumption, by with_reducible assumption⟩ | ((try clear hback_1); first | lia | grind [zu_at, zu_atL, zvn]))) (fun o_17 ho_17 => ?_)
  refine zw_zb0 (sf_X11_apply (f7 s_1_1.toNatClampNeg) o_13 o_17 (1 : Int64)) (fun o_21 ho_21 => ?_)
  refine zw_zb0 (sf_X8_whatOf s_1_1 0 v2_0 f8 f9 s_1_3 (by first | with_reducible assumption | exact ⟨by with_reducible assumption, by with_reducible assumption⟩ | ((try clear hback_1); first | lia | grind [zu_at, zu_atL, zvn])) (by first | with_reducible assumption | exact ⟨by with_reducible assumption, by with_reducible assumption⟩ | ((try clear hback_1); first | lia | grind [zu_at, zu_atL, zvn]))) (fun o_25 ho_25 => ?_)
  refine zw_zb0 (sf_X11_nearest o_25 (1 : Int64) o_7.toInt64) (fun o_29 ho_29 => ?_)
  refine zw_zb0 (sf_X8_whatOf s_1_1 1 v2_0 f8 f9 s_1_3 (by first | with_reducible assumption | exact ⟨by with_reducible assumption, by with_reducible assumption⟩ | ((try clear hback_1); first | lia | grind [zu_at, zu_atL, zvn])) (by first | with_reducible assumption | exact ⟨by with_reducible assumption, by with_reducible assumption⟩ | ((try clear hback_1); first | lia | grind [zu_at, zu_atL, zvn]))) (fun o_33 ho_33 => ?_)
  refine zw_zb0 (sf_X11_nearest o_33 (1 : Int64) o_7.toInt64) (fun o_37 ho_37 => ?_)
  refine zw_zb0 (sf_X11_apply (f7 s_1_1.toNatClampNeg) o_29 o_37 o_7.toInt64) (fun o_41 ho_41 => ?_)
  exact hback_1 _ (by (try dsimp only); (repeat' apply And.intro) <;> first | with_reducible assumption | ((try clear hback_1); first | lia | grind [zu_at, zu_atL, zvn])) (by (try dsimp only); ((try clear hback_1); first | lia | grind [zu_at, zu_atL, zvn])) (by (try dsimp only); ((try clear hback_1); first | lia | grind [zu_at, zu_atL, zvn]))
set_option maxHeartbeats 4000000 in
set_option maxRecDepth 100000 in
theorem sf_X9_settle (v2_0 : Int32) (f3 : Nat → Int32) (f4 : Nat → Int32) (f5 : Nat → Int32) (f6 : Nat → Int32) (f7 : Nat → Int32) (f9 : Nat → Int32) (f10 : Nat → Int32) (f11 : Nat → Int32) (f12 : Nat → Int64) (f13 : Nat → Int64) (f14 : Nat → Int32) (h_v2_0 : 0 ≤ v2_0 ∧ v2_0 ≤ 14) (h_f4 : (∀ i : Nat, 0 ≤ f4 i ∧ f4 i ≤ 13)) (h_f14 : (∀ i : Nat, 0 ≤ f14 i ∧ f14 i ≤ 1)) : zw (fn_X9_settle v2_0 f3 f4 f5 f6 f7 f9 f10 f11 f12 f13 f14) (fun r => 0 ≤ r.1 ∧ r.1 ≤ 14 ∧ 0 ≤ r.2.1 ∧ r.2.1 ≤ 14 ∧ 0 ≤ r.2.2.1 ∧ r.2.2.1 ≤ 1 ∧ (∀ i : Nat, 0 ≤ r.2.2.2.1 i ∧ r.2.2.2.1 i ≤ 13) ∧ (∀ i : Nat, 0 ≤ r.2.2.2.2.2.2.2.2 i ∧ r.2.2.2.2.2.2.2.2 i ≤ 1)) := by
  unfold fn_X9_settle
  refine zw_zb0 (sf_X2_gather v2_0 f3 f4 f5 f6 f7 (by first | with_reducible assumption | exact ⟨by with_reducible assumption, by with_reducible assumption⟩ | first | lia | grind [zu_at, zu_atL, zvn]) (by first | with_reducible assumption | exact ⟨by with_reducible assumption, by with_reducible assumption⟩ | first | lia | grind [zu_at, zu_atL, zvn])) (fun o_1 ho_1 => ?_)
  obtain ⟨o_1_0, o_1_1, o_1_2, o_1_3, o_1_4, o_1_5⟩ := o_1
  try dsimp only at ho_1
  obtain ⟨ho_1_0, ho_1_1, ho_1_2, ho_1_3, ho_1_4, ho_1_5, ho_1_6⟩ := ho_1
  refine zw_zb0 (sf_X6_fill (-1) 0 v2_0 f9 f10 f11 f12 f13 f14 (by first | with_reducible assumption | exact ⟨by with_reducible assumption, by with_reducible assumption⟩ | first | lia | grind [zu_at, zu_atL, zvn]) (by first | with_reducible assumption | exact ⟨by with_reducible assumption, by with_reducible assumption⟩ | first | lia | grind [zu_at, zu_atL, zvn])) (fun o_5 ho_5 => ?_)
  obtain ⟨o_5_0, o_5_1, o_5_2⟩ := o_5
  try dsimp only at ho_5
  refine zw_some ?_
  first | exact True.intro | ((try dsimp only); first | with_reducible assumption | grind [zu_at, zu_atL, zvn] | ((repeat' apply And.intro) <;> first | with_reducible assumption | first | lia | grind [zu_at, zu_atL, zvn]))
set_option maxHeartbeats 4000000 in
set_option maxRecDepth 100000 in
theorem sf_X9_isInput (p1 : Int32) (v1_0 : Int32) (f2 : Nat → Int32) (h_v1_0 : 0 ≤ v1_0 ∧ v1_0 ≤ 14) : zw (fn_X9_isInput p1 v1_0 f2) (fun r => 0 ≤ r ∧ r ≤ 1 ∧ r ≤ v1_0 ∧ (¬ r = 0 → 0 ≤ p1 ∧ 1 ≤ r ∧ p1 ≤ 13 ∧ p1 < v1_0 ∧ (f2 p1.toNatClampNeg) ≤ 0 ∧ 0 ≤ (f2 p1.toNatClampNeg)) ∧ (r = 1 → 0 ≤ p1 ∧ p1 ≤ 13 ∧ 1 ≤ v1_0 ∧ p1 < v1_0 ∧ (f2 p1.toNatClampNeg) ≤ 0 ∧ 0 ≤ (f2 p1.toNatClampNeg) ∧ (f2 p1.toNatClampNeg) < r) ∧ (¬ r = 1 → r ≤ 0)) := by
  unfold fn_X9_isInput
  refine zw_zb0 (sf_X9_hasNumber p1 v1_0 (by first | with_reducible assumption | exact ⟨by with_reducible assumption, by with_reducible assumption⟩ | first | lia | grind [zu_at, zu_atL, zvn])) (fun o_1 ho_1 => ?_)
  obtain ⟨ho_1_0, ho_1_1, ho_1_2, ho_1_3, ho_1_4, ho_1_5⟩ := ho_1
  refine zw_if (fun c1 => ?_) (fun c1 => ?_)
  · refine zw_some ?_
    first | exact True.intro | ((try dsimp only); first | with_reducible assumption | grind [zu_at, zu_atL, zvn] | ((repeat' apply And.intro) <;> first | with_reducible assumption | first | lia | grind [zu_at, zu_atL, zvn]))
  refine zw_zg32 14 (by decide) (by (try dsimp only); first | lia | grind [zu_at, zu_atL, zvn]) ?_
  refine zw_if (fun c2 => ?_) (fun c2 => ?_)
  · refine zw_some ?_
    first | exact True.intro | ((try dsimp only); first | with_reducible assumption | grind [zu_at, zu_atL, zvn] | ((repeat' apply And.intro) <;> first | with_reducible assumption | first | lia | grind [zu_at, zu_atL, zvn]))
  refine zw_some ?_
  first | exact True.intro | ((try dsimp only); first | with_reducible assumption | grind [zu_at, zu_atL, zvn] | ((repeat' apply And.intro) <;> first | with_reducible assumption | first | lia | grind [zu_at, zu_atL, zvn]))
set_option maxHeartbeats 4000000 in
set_option maxRecDepth 100000 in
theorem sf_X9_isFree (p1 : Int32) (v1_0 : Int32) (v2_0 : Int32) (f3 : Nat → Int32) (f4 : Nat → Int32) (h_v1_0 : 0 ≤ v1_0 ∧ v1_0 ≤ 14) (h_v2_0 : 0 ≤ v2_0 ∧ v2_0 ≤ 14) (h_f3 : (∀ i : Nat, 0 ≤ f3 i ∧ f3 i ≤ 13)) : zw (fn_X9_isFree p1 v1_0 v2_0 f3 f4) (fun r => 0 ≤ r ∧ r ≤ 1 ∧ r ≤ v1_0 ∧ r ≤ v2_0 ∧ (¬ r = 0 → 0 ≤ p1 ∧ 1 ≤ r ∧ p1 ≤ 13 ∧ p1 < v1_0 ∧ (f3 p1.toNatClampNeg) ≤ 13 ∧ 0 ≤ (f3 p1.toNatClampNeg) ∧ (f3 p1.toNatClampNeg) < v2_0) ∧ (r = 1 → 0 ≤ p1 ∧ p1 ≤ 13 ∧ 1 ≤ v1_0 ∧ 1 ≤ v2_0 ∧ p1 < v1_0 ∧ (f3 p1.toNatClampNeg) ≤ 13 ∧ 0 ≤ (f3 p1.toNatClampNeg) ∧ (f3 p1.toNatClampNeg) < v2_0) ∧ (¬ r = 1 → r ≤ 0)) := by
  unfold fn_X9_isFree
  refine zw_zb0 (sf_X9_hasNumber p1 v1_0 (by first | with_reducible assumption | exact ⟨by with_reducible assumption, by with_reducible assumption⟩ | first | lia | grind [zu_at, zu_atL, zvn])) (fun o_1 ho_1 => ?_)
  obtain ⟨ho_1_0, ho_1_1, ho_1_2, ho_1_3, ho_1_4, ho_1_5⟩ := ho_1
  refine zw_if (fun c1 => ?_) (fun c1 => ?_)
  · refine zw_some ?_
    first | exact True.intro | ((try dsimp only); first | with_reducible assumption | grind [zu_at, zu_atL, zvn] | ((repeat' apply And.intro) <;> first | with_reducible assumption | first | lia | grind [zu_at, zu_atL, zvn]))
  refine zw_zg32 14 (by decide) (by (try dsimp only); first | lia | grind [zu_at, zu_atL, zvn]) ?_
  refine zw_zb0 (sf_X2_isFree (f3 p1.toNatClampNeg) v2_0 f4 (by first | with_reducible assumption | exact ⟨by with_reducible assumption, by with_reducible assumption⟩ | first | lia | grind [zu_at, zu_atL, zvn])) (fun o_7 ho_7 => ?_)
  obtain ⟨ho_7_0, ho_7_1, ho_7_2, ho_7_3, ho_7_4, ho_7_5⟩ := ho_7
  refine zw_if (fun c2 => ?_) (fun c2 => ?_)
  · refine zw_some ?_
    first | exact True.intro | ((try dsimp only); first | with_reducible assumption | grind [zu_at, zu_atL, zvn] | ((repeat' apply And.intro) <;> first | with_reducible assumption | first | lia | grind [zu_at, zu_atL, zvn]))
  refine zw_some ?_
  first | exact True.intro | ((try dsimp only); first | with_reducible assumption | grind [zu_at, zu_atL, zvn] | ((repeat' apply And.intro) <;> first | with_reducible assumption | first | lia | grind [zu_at, zu_atL, zvn]))
set_option maxHeartbeats 4000000 in
set_option maxRecDepth 100000 in
theorem sf_X11_putBytes (p1 : Int32) (v0_1 : Int32) (f1 : Nat → Int32) (h_v0_1 : 0 ≤ v0_1 ∧ v0_1 ≤ 1200) : zw (fn_X11_putBytes p1 v0_1 f1) (fun r => 0 ≤ r.1 ∧ r.1 ≤ 1200) := by
  unfold fn_X11_putBytes
  refine zw_zl32 (fun s_1 => (-8) ≤ s_1.1 ∧ s_1.1 ≤ 24 ∧ 0 ≤ s_1.2.1 ∧ s_1.2.1 ≤ 1200 ∧ v0_1 ≤ s_1.2.1) (fun s_1 => s_1.1 - (-8)) (by (try dsimp only); (repeat' apply And.intro) <;> first | with_reducible assumption | first | lia | grind [zu_at, zu_atL, zvn]) (by (try dsimp only); first | lia | grind [zu_at, zu_atL, zvn]) (fun s_1 back_1 Hback_1 hback_1 => ?_)
  obtain ⟨s_1_0, s_1_1, s_1_2⟩ := s_1
  try dsimp only at Hback_1 hback_1
  obtain ⟨Hback_1_0, Hback_1_1, Hback_1_2, Hback_1_3, Hback_1_4⟩ := Hback_1
  refine zw_if (fun c1 => ?_) (fun c1 => ?_)
  · refine zw_some ?_
    first | exact True.intro | ((try dsimp only); (repeat' apply And.intro) <;> first | with_reducible assumption | ((try clear hback_1); first | lia | grind [zu_at, zu_atL, zvn]))
  refine zw_if (fun c2 => ?_) (fun c2 => ?_)
  · exact hback_1 _ (by (try dsimp only); (repeat' apply And.intro) <;> first | with_reducible assumption | ((try clear hback_1); first | lia | grind [zu_at, zu_atL, zvn])) (by (try dsimp only); ((try clear hback_1); first | lia | grind [zu_at, zu_atL, zvn])) (by (try dsimp only); ((try clear hback_1); first | lia | grind [zu_at, zu_atL, zvn]))
  refine zw_zg32 1200 (by decide) (by (try dsimp only); ((try clear hback_1); first | lia | grind [zu_at, zu_atL, zvn])) ?_
  refine zw_zn1 ?_
  exact hback_1 _ (by (try dsimp only); (repeat' apply And.intro) <;> first | with_reducible assumption | ((try clear hback_1); first | lia | grind [zu_at, zu_atL, zvn])) (by (try dsimp only); ((try clear hback_1); first | lia | grind [zu_at, zu_atL, zvn])) (by (try dsimp only); ((try clear hback_1); first | lia | grind [zu_at, zu_atL, zvn]))
set_option maxHeartbeats 4000000 in
set_option maxRecDepth 100000 in
theorem sf_X11_refuse (p1 : Int32) (f1 : Nat → Int32) : zw (fn_X11_refuse p1 f1) (fun r => (-1) ≤ r.1 ∧ r.1 ≤ (-1)) := by
  unfold fn_X11_refuse
  refine zw_if (fun c1 => ?_) (fun c1 => ?_)
  · refine zw_some ?_
    first | exact True.intro | ((try dsimp only); (repeat' apply And.intro) <;> first | with_reducible assumption | first | lia | grind [zu_at, zu_atL, zvn])
  refine zw_if (fun c2 => ?_) (fun c2 => ?_)
  · refine zw_some ?_
    first | exact True.intro | ((try dsimp only); (repeat' apply And.intro) <;> first | with_reducible assumption | first | lia | grind [zu_at, zu_atL, zvn])
  refine zw_zg32 5 (by decide) (by (try dsimp only); first | lia | grind [zu_at, zu_atL, zvn]) ?_
  refine zw_some ?_
  first | exact True.intro | ((try dsimp only); (repeat' apply And.intro) <;> first | with_reducible assumption | first | lia | grind [zu_at, zu_atL, zvn])
set_option maxHeartbeats 4000000 in
set_option maxRecDepth 100000 in
theorem sf_X11_feed (p1 : Int32) (p2 : Int32) (p3 : Int32) (p4 : Int32) (p5 : Int32) (v0_1 : Int32) (f1 : Nat → Int32) (f2 : Nat → Int32) (h_v0_1 : 0 ≤ v0_1 ∧ v0_1 ≤ 1200) : zw (fn_X11_feed p1 p2 p3 p4 p5 v0_1 f1 f2) (fun r => 0 ≤ r.2.1 ∧ r.2.1 ≤ 1200 ∧ (-1) ≤ r.1 ∧ r.1 ≤ 1200) := by
  unfold fn_X11_feed
  refine zw_if (fun c1 => ?_) (fun c1 => ?_)
  · refine zw_zb0 (sf_X11_putBytes p1 v0_1 f1 (by first | with_reducible assumption | exact ⟨by with_reducible assumption, by with_reducible assumption⟩ | first | lia | grind [zu_at, zu_atL, zvn])) (fun o_2 ho_2 => ?_)
    obtain ⟨o_2_0, o_2_1⟩ := o_2
    try dsimp only at ho_2
    obtain ⟨ho_2_0, ho_2_1⟩ := ho_2
    refine zw_zb0 (sf_X11_putBytes p2 o_2_0 o_2_1 (by first | with_reducible assumption | exact ⟨by with_reducible assumption, by with_reducible assumption⟩ | first | lia | grind [zu_at, zu_atL, zvn])) (fun o_6 ho_6 => ?_)
    obtain ⟨o_6_0, o_6_1⟩ := o_6
    try dsimp only at ho_6
    obtain ⟨ho_6_0, ho_6_1⟩ := ho_6
    refine zw_zb0 (sf_X11_putBytes p3 o_6_0 o_6_1 (by first | with_reducible assumption | exact ⟨by with_reducible assumption, by with_reducible assumption⟩ | first | lia | grind [zu_at, zu_atL, zvn])) (fun o_10 ho_10 => ?_)
    obtain ⟨o_10_0, o_10_1⟩ := o_10
    try dsimp only at ho_10
    obtain ⟨ho_10_0, ho_10_1⟩ := ho_10
    refine zw_zb0 (sf_X11_putBytes p4 o_10_0 o_10_1 (by first | with_reducible assumption | exact ⟨by with_reducible assumption, by with_reducible assumption⟩ | first | lia | grind [zu_at, zu_atL, zvn])) (fun o_14 ho_14 => ?_)
    obtain ⟨o_14_0, o_14_1⟩ := o_14
    try dsimp only at ho_14
    obtain ⟨ho_14_0, ho_14_1⟩ := ho_14
    refine zw_zb0 (sf_X11_putBytes p5 o_14_0 o_14_1 (by first | with_reducible assumption | exact ⟨by with_reducible assumption, by with_reducible assumption⟩ | first | lia | grind [zu_at, zu_atL, zvn])) (fun o_18 ho_18 => ?_)
    obtain ⟨o_18_0, o_18_1⟩ := o_18
    try dsimp only at ho_18
    obtain ⟨ho_18_0, ho_18_1⟩ := ho_18
    refine zw_some ?_
    first | exact True.intro | ((try dsimp only); (repeat' apply And.intro) <;> first | with_reducible assumption | first | lia | grind [zu_at, zu_atL, zvn])
  refine zw_zb0 (sf_X11_refuse 0 f2) (fun o_22 ho_22 => ?_)
  obtain ⟨o_22_0, o_22_1⟩ := o_22
  try dsimp only at ho_22
  obtain ⟨ho_22_0, ho_22_1⟩ := ho_22
  refine zw_some ?_
  first | exact True.intro | ((try dsimp only); (repeat' apply And.intro) <;> first | with_reducible assumption | first | lia | grind [zu_at, zu_atL, zvn])
set_option maxHeartbeats 4000000 in
set_option maxRecDepth 100000 in
theorem sf_X11_end (p1 : Int32) (v0_1 : Int32) (f1 : Nat → Int32) (h_v0_1 : 0 ≤ v0_1 ∧ v0_1 ≤ 1200) : zw (fn_X11_end p1 v0_1 f1) (fun r => 0 ≤ r.1 ∧ r.1 ≤ 1 ∧ 0 ≤ r.2.1 ∧ r.2.1 ≤ 1200) := by
  unfold fn_X11_end
  refine zw_if (fun c1 => ?_) (fun c1 => ?_)
  · refine zw_zb0 (sf_X11_refuse 0 f1) (fun o_2 ho_2 => ?_)
    obtain ⟨o_2_0, o_2_1⟩ := o_2
    try dsimp only at ho_2
    obtain ⟨ho_2_0, ho_2_1⟩ := ho_2
    refine zw_some ?_
    first | exact True.intro | ((try dsimp only); (repeat' apply And.intro) <;> first | with_reducible assumption | first | lia | grind [zu_at, zu_atL, zvn])
  refine zw_if (fun c2 => ?_) (fun c2 => ?_)
  · refine zw_some ?_
    first | exact True.intro | ((try dsimp only); (repeat' apply And.intro) <;> first | with_reducible assumption | first | lia | grind [zu_at, zu_atL, zvn])
  refine zw_zb0 (sf_X11_refuse 0 f1) (fun o_7 ho_7 => ?_)
  obtain ⟨o_7_0, o_7_1⟩ := o_7
  try dsimp only at ho_7
  obtain ⟨ho_7_0, ho_7_1⟩ := ho_7
  refine zw_some ?_
  first | exact True.intro | ((try dsimp only); (repeat' apply And.intro) <;> first | with_reducible assumption | first | lia | grind [zu_at, zu_atL, zvn])
set_option maxHeartbeats 4000000 in
set_option maxRecDepth 100000 in
theorem sf_X11_task (v0_1 : Int32) (v1_1 : Int32) (f5 : Nat → Int32) (f6 : Nat → Int32) (f7 : Nat → Int32) (f8 : Nat → Int32) (f9 : Nat → Int32) (f10 : Nat → Int32) (f11 : Nat → Int32) (f12 : Nat → Int32) (f13 : Nat → Int32) (f14 : Nat → Int32) (f15 : Nat → Int32) (f16 : Nat → Int32) (f17 : Nat → Int32) (f18 : Nat → Int32) (v19_0 : Int32) (v19_1 : Int32) (v19_2 : Int32) (f20 : Nat → Int32) (f21 : Nat → Int32) (f22 : Nat → Int32) (f24 : Nat → Int64) (f25 : Nat → Int64) (f26 : Nat → Int32) (f27 : Nat → Int32) (v28_2 : Int32) (v28_9 : Int32) (v29_2 : Int32) (v30_3 : Int32) (v30_4 : Int32) (f31 : Nat → Int32) (h_v0_1 : 0 ≤ v0_1 ∧ v0_1 ≤ 1200) (h_v19_0 : 0 ≤ v19_0 ∧ v19_0 ≤ 14) (h_v19_1 : 0 ≤ v19_1 ∧ v19_1 ≤ 14) (h_v19_2 : 0 ≤ v19_2 ∧ v19_2 ≤ 1) (h_f20 : (∀ i : Nat, 0 ≤ f20 i ∧ f20 i ≤ 13)) (h_f26 : (∀ i : Nat, 0 ≤ f26 i ∧ f26 i ≤ 1)) (h_v28_2 : 0 ≤ v28_2 ∧ v28_2 ≤ 1) (h_v29_2 : 0 ≤ v29_2 ∧ v29_2 ≤ 1) : zw (fn_X11_task v0_1 v1_1 f5 f6 f7 f8 f9 f10 f11 f12 f13 f14 f15 f16 f17 f18 v19_0 v19_1 v19_2 f20 f21 f22 f24 f25 f26 f27 v28_2 v28_9 v29_2 v30_3 v30_4 f31) (fun r => 0 ≤ r.2.1 ∧ r.2.1 ≤ 1200 ∧ 0 ≤ r.2.2.1 ∧ r.2.2.1 ≤ 1 ∧ 0 ≤ r.2.2.2.1 ∧ r.2.2.2.1 ≤ 1 ∧ 0 ≤ r.2.2.2.2.2.2.2.1 ∧ r.2.2.2.2.2.2.2.1 ≤ 4 ∧ 0 ≤ r.2.2.2.2.2.2.2.2.2.1 ∧ r.2.2.2.2.2.2.2.2.2.1 ≤ 14 ∧ 0 ≤ r.2.2.2.2.2.2.2.2.2.2.2.1 ∧ r.2.2.2.2.2.2.2.2.2.2.2.1 ≤ 1200 ∧ 0 ≤ r.2.2.2.2.2.2.2.2.2.2.2.2.1 ∧ r.2.2.2.2.2.2.2.2.2.2.2.2.1 ≤ 1200 ∧ 0 ≤ r.2.2.2.2.2.2.2.2.2.2.2.2.2.1 ∧ r.2.2.2.2.2.2.2.2.2.2.2.2.2.1 ≤ 5 ∧ 0 ≤ r.2.2.2.2.2.2.2.2.2.2.2.2.2.2.1 ∧ r.2.2.2.2.2.2.2.2.2.2.2.2.2.2.1 ≤ 1200 ∧ (-1) ≤ r.2.2.2.2.2.2.2.2.2.2.2.2.2.2.2.2.1 ∧ r.2.2.2.2.2.2.2.2.2.2.2.2.2.2.2.2.1 ≤ 12 ∧ 0 ≤ r.2.2.2.2.2.2.2.2.2.2.2.2.2.2.2.2.2.2.2.2.2.2.2.2.2.2.2.2.2.1 ∧ r.2.2.2.2.2.2.2.2.2.2.2.2.2.2.2.2.2.2.2.2.2.2.2.2.2.2.2.2.2.1 ≤ 14 ∧ 0 ≤ r.2.2.2.2.2.2.2.2.2.2.2.2.2.2.2.2.2.2.2.2.2.2.2.2.2.2.2.2.2.2.1 ∧ r.2.2.2.2.2.2.2.2.2.2.2.2.2.2.2.2.2.2.2.2.2.2.2.2.2.2.2.2.2.2.1 ≤ 14 ∧ 0 ≤ r.2.2.2.2.2.2.2.2.2.2.2.2.2.2.2.2.2.2.2.2.2.2.2.2.2.2.2.2.2.2.2.1 ∧ r.2.2.2.2.2.2.2.2.2.2.2.2.2.2.2.2.2.2.2.2.2.2.2.2.2.2.2.2.2.2.2.1 ≤ 1 ∧ (∀ i : Nat, 0 ≤ r.2.2.2.2.2.2.2.2.2.2.2.2.2.2.2.2.2.2.2.2.2.2.2.2.2.2.2.2.2.2.2.2.1 i ∧ r.2.2.2.2.2.2.2.2.2.2.2.2.2.2.2.2.2.2.2.2.2.2.2.2.2.2.2.2.2.2.2.2.1 i ≤ 13) ∧ (∀ i : Nat, 0 ≤ r.2.2.2.2.2.2.2.2.2.2.2.2.2.2.2.2.2.2.2.2.2.2.2.2.2.2.2.2.2.2.2.2.2.2.2.2.2.1 i ∧ r.2.2.2.2.2.2.2.2.2.2.2.2.2.2.2.2.2.2.2.2.2.2.2.2.2.2.2.2.2.2.2.2.2.2.2.2.2.1 i ≤ 1) ∧ 0 ≤ r.2.2.2.2.2.2.2.2.2.2.2.2.2.2.2.2.2.2.2.2.2.2.2.2.2.2.2.2.2.2.2.2.2.2.2.2.2.2.2.1 ∧ r.2.2.2.2.2.2.2.2.2.2.2.2.2.2.2.2.2.2.2.2.2.2.2.2.2.2.2.2.2.2.2.2.2.2.2.2.2.2.2.1 ≤ 1 ∧ 0 ≤ r.2.2.2.2.2.2.2.2.2.2.2.2.2.2.2.2.2.2.2.2.2.2.2.2.2.2.2.2.2.2.2.2.2.2.2.2.2.2.2.2.2.1 ∧ r.2.2.2.2.2.2.2.2.2.2.2.2.2.2.2.2.2.2.2.2.2.2.2.2.2.2.2.2.2.2.2.2.2.2.2.2.2.2.2.2.2.1 ≤ 1 ∧ (-1) ≤ r.1 ∧ r.1 ≤ 14 ∧ r.2.1 ≤ 0 ∧ (r.2.2.1 = 0 ∧ r.2.2.2.1 = 1 ∨ r.2.2.1 = 1 ∧ r.2.2.2.1 = 0) ∧ r.2.1 = 0) := by
  unfold fn_X11_task
  refine zw_zb0 (sf_X5_read v0_1 v1_1 f5 f6 f7 f8 f9 f10 f11 f12 f13 f14 f15 f16 f17 f18) (fun o_1 ho_1 => ?_)
  obtain ⟨o_1_0, o_1_1, o_1_2, o_1_3, o_1_4, o_1_5, o_1_6, o_1_7, o_1_8, o_1_9, o_1_10, o_1_11, o_1_12, o_1_13, o_1_14, o_1_15, o_1_16, o_1_17, o_1_18, o_1_19, o_1_20, o_1_21, o_1_22, o_1_23, o_1_24, o_1_25⟩ := o_1
  try dsimp only at ho_1
  obtain ⟨ho_1_0, ho_1_1, ho_1_2, ho_1_3, ho_1_4, ho_1_5, ho_1_6, ho_1_7, ho_1_8, ho_1_9, ho_1_10, ho_1_11, ho_1_12, ho_1_13, ho_1_14, ho_1_15⟩ := ho_1
  refine zw_if (fun c1 => ?_) (fun c1 => ?_)
  · refine zw_zb0 (sf_X11_refuse 1 f31) (fun o_26 ho_26 => ?_)
    obtain ⟨o_26_0, o_26_1⟩ := o_26
    try dsimp only at ho_26
    obtain ⟨ho_26_0, ho_26_1⟩ := ho_26
    refine zw_some ?_
    first | exact True.intro | ((try dsimp only); (repeat' apply And.intro) <;> first | with_reducible assumption | first | lia | grind [zu_at, zu_atL, zvn])
  refine zw_zb0 (sf_X9_settle o_1_6 o_1_24 f20 f21 f22 o_1_23 o_1_22 o_1_20 o_1_21 f24 f25 f26 (by first | with_reducible assumption | exact ⟨by with_reducible assumption, by with_reducible assumption⟩ | first | lia | grind [zu_at, zu_atL, zvn]) (by first | with_reducible assumption | exact ⟨by with_reducible assumption, by with_reducible assumption⟩ | first | lia | grind [zu_at, zu_atL, zvn]) (by first | with_reducible assumption | exact ⟨by with_reducible assumption, by with_reducible assumption⟩ | first | lia | grind [zu_at, zu_atL, zvn])) (fun o_6 ho_6 => ?_)
  obtain ⟨o_6_0, o_6_1, o_6_2, o_6_3, o_6_4, o_6_5, o_6_6, o_6_7, o_6_8⟩ := o_6
  try dsimp only at ho_6
  obtain ⟨ho_6_0, ho_6_1, ho_6_2, ho_6_3, ho_6_4, ho_6_5, ho_6_6, ho_6_7⟩ := ho_6
  refine zw_zb0 (sf_X2_fillFree 0 o_6_0 f27 o_6_5 (by first | with_reducible assumption | exact ⟨by with_reducible assumption, by with_reducible assumption⟩ | first | lia | grind [zu_at, zu_atL, zvn])) (fun o_10 ho_10 => ?_)
  refine zw_zb0 (sf_X1_forget) (fun o_14 ho_14 => ?_)
  obtain ⟨o_14_0, o_14_1⟩ := o_14
  try dsimp only at ho_14
  obtain ⟨ho_14_0, ho_14_1, ho_14_2, ho_14_3, ho_14_4⟩ := ho_14
  refine zw_zb0 (sf_X3_forget) (fun o_18 ho_18 => ?_)
  obtain ⟨ho_18_0, ho_18_1, ho_18_2⟩ := ho_18
  refine zw_zb0 (sf_X0_forget) (fun o_22 ho_22 => ?_)
  obtain ⟨o_22_0, o_22_1⟩ := o_22
  try dsimp only at ho_22
  obtain ⟨ho_22_0, ho_22_1, ho_22_2, ho_22_3⟩ := ho_22
  refine zw_some ?_
  first | exact True.intro | ((try dsimp only); (repeat' apply And.intro) <;> first | with_reducible assumption | first | lia | grind [zu_at, zu_atL, zvn])
set_option maxHeartbeats 4000000 in
set_option maxRecDepth 100000 in
theorem sf_X11_fault (p1 : Int32) (v1_2 : Int32) (v1_3 : Int32) : zw (fn_X11_fault p1 v1_2 v1_3) (fun r => True) := by
  unfold fn_X11_fault
  refine zw_if (fun c1 => ?_) (fun c1 => ?_)
  · refine zw_some ?_
    first | exact True.intro | ((try dsimp only); (repeat' apply And.intro) <;> first | with_reducible assumption | first | lia | grind [zu_at, zu_atL, zvn])
  refine zw_if (fun c2 => ?_) (fun c2 => ?_)
  · refine zw_some ?_
    first | exact True.intro | ((try dsimp only); (repeat' apply And.intro) <;> first | with_reducible assumption | first | lia | grind [zu_at, zu_atL, zvn])
  refine zw_some ?_
  first | exact True.intro | ((try dsimp only); (repeat' apply And.intro) <;> first | with_reducible assumption | first | lia | grind [zu_at, zu_atL, zvn])
set_option maxHeartbeats 4000000 in
set_option maxRecDepth 100000 in
theorem sf_X11_has (p1 : Int32) (v0_15 : Int32) (v1_0 : Int32) (v1_5 : Int32) (v2_0 : Int32) (v2_1 : Int32) (f3 : Nat → Int32) (v4_0 : Int32) (v4_1 : Int32) (h_v1_0 : 0 ≤ v1_0 ∧ v1_0 ≤ 4) (h_v2_0 : 0 ≤ v2_0 ∧ v2_0 ≤ 14) (h_v4_0 : 0 ≤ v4_0 ∧ v4_0 ≤ 14) (h_v4_1 : 0 ≤ v4_1 ∧ v4_1 ≤ 14) : zw (fn_X11_has p1 v0_15 v1_0 v1_5 v2_0 v2_1 f3 v4_0 v4_1) (fun r => True) := by
  unfold fn_X11_has
  refine zw_if (fun c1 => ?_) (fun c1 => ?_)
  · refine zw_some ?_
    first | exact True.intro | ((try dsimp only); (repeat' apply And.intro) <;> first | with_reducible assumption | first | lia | grind [zu_at, zu_atL, zvn])
  refine zw_if (fun c2 => ?_) (fun c2 => ?_)
  · refine zw_some ?_
    first | exact True.intro | ((try dsimp only); (repeat' apply And.intro) <;> first | with_reducible assumption | first | lia | grind [zu_at, zu_atL, zvn])
  refine zw_if (fun c3 => ?_) (fun c3 => ?_)
  · refine zw_some ?_
    first | exact True.intro | ((try dsimp only); (repeat' apply And.intro) <;> first | with_reducible assumption | first | lia | grind [zu_at, zu_atL, zvn])
  refine zw_if (fun c4 => ?_) (fun c4 => ?_)
  · refine zw_zb0 (sf_X4_countAnswers v2_0 v2_0 f3 (by first | with_reducible assumption | exact ⟨by with_reducible assumption, by with_reducible assumption⟩ | first | lia | grind [zu_at, zu_atL, zvn])) (fun o_5 ho_5 => ?_)
    obtain ⟨ho_5_0, ho_5_1, ho_5_2⟩ := ho_5
    refine zw_some ?_
    first | exact True.intro | ((try dsimp only); (repeat' apply And.intro) <;> first | with_reducible assumption | first | lia | grind [zu_at, zu_atL, zvn])
  refine zw_if (fun c5 => ?_) (fun c5 => ?_)
  · refine zw_some ?_
    first | exact True.intro | ((try dsimp only); (repeat' apply And.intro) <;> first | with_reducible assumption | first | lia | grind [zu_at, zu_atL, zvn])
  refine zw_if (fun c6 => ?_) (fun c6 => ?_)
  · refine zw_some ?_
    first | exact True.intro | ((try dsimp only); (repeat' apply And.intro) <;> first | with_reducible assumption | first | lia | grind [zu_at, zu_atL, zvn])
  refine zw_if (fun c7 => ?_) (fun c7 => ?_)
  · refine zw_some ?_
    first | exact True.intro | ((try dsimp only); (repeat' apply And.intro) <;> first | with_reducible assumption | first | lia | grind [zu_at, zu_atL, zvn])
  refine zw_if (fun c8 => ?_) (fun c8 => ?_)
  · refine zw_some ?_
    first | exact True.intro | ((try dsimp only); (repeat' apply And.intro) <;> first | with_reducible assumption | first | lia | grind [zu_at, zu_atL, zvn])
  refine zw_some ?_
  first | exact True.intro | ((try dsimp only); (repeat' apply And.intro) <;> first | with_reducible assumption | first | lia | grind [zu_at, zu_atL, zvn])
set_option maxHeartbeats 4000000 in
set_option maxRecDepth 100000 in
theorem sf_X11_letterOf (p0 : Int32) (p1 : Int32) : zw (fn_X11_letterOf p0 p1) (fun r => 0 ≤ r ∧ r ≤ 31) := by
  unfold fn_X11_letterOf
  refine zw_some ?_
  first | exact True.intro | ((try dsimp only); (repeat' apply And.intro) <;> first | with_reducible assumption | first | lia | grind [zu_at, zu_atL, zvn, zand31])
set_option maxHeartbeats 4000000 in
set_option maxRecDepth 100000 in
theorem sf_X11_letter (p1 : Int32) (p2 : Int32) (p3 : Int32) (v1_0 : Int32) (v2_0 : Int32) (f3 : Nat → Int32) (f4 : Nat → Int32) (h_p2 : 0 ≤ p2 ∧ p2 ≤ 1) (h_v1_0 : 0 ≤ v1_0 ∧ v1_0 ≤ 4) (h_v2_0 : 0 ≤ v2_0 ∧ v2_0 ≤ 14) : zw (fn_X11_letter p1 p2 p3 v1_0 v2_0 f3 f4) (fun r => (-1) ≤ r ∧ r ≤ 31) := by
  unfold fn_X11_letter
  refine zw_zj (fun s_1 => (s_1 = 0 ∨ p2 = 0 ∧ 0 ≤ p1 ∧ p1 < v2_0 ∨ ¬ p2 = 0 ∧ 0 ≤ p1 ∧ p1 < v1_0) ∧ 0 ≤ s_1 ∧ s_1 ≤ 1) (fun s_1 Hj_1 => ?_) (fun j_1 hj_1 => ?_)
  · obtain ⟨Hj_1_0, Hj_1_1, Hj_1_2⟩ := Hj_1
    refine zw_if (fun c1 => ?_) (fun c1 => ?_)
    · refine zw_some ?_
      first | exact True.intro | ((try dsimp only); (repeat' apply And.intro) <;> first | with_reducible assumption | ((try clear hj_1); first | lia | grind [zu_at, zu_atL, zvn]))
    refine zw_if (fun c2 => ?_) (fun c2 => ?_)
    · refine zw_some ?_
      first | exact True.intro | ((try dsimp only); (repeat' apply And.intro) <;> first | with_reducible assumption | ((try clear hj_1); first | lia | grind [zu_at, zu_atL, zvn]))
    refine zw_if (fun c3 => ?_) (fun c3 => ?_)
    · refine zw_if (fun c4 => ?_) (fun c4 => ?_)
      · refine zw_zg32 14 (by decide) (by (try dsimp only); ((try clear hj_1); first | lia | grind [zu_at, zu_atL, zvn])) ?_
        refine zw_zb0 (sf_X11_letterOf (f3 p1.toNatClampNeg) p3) (fun o_7 ho_7 => ?_)
        obtain ⟨ho_7_0, ho_7_1⟩ := ho_7
        refine zw_some ?_
        first | exact True.intro | ((try dsimp only); (repeat' apply And.intro) <;> first | with_reducible assumption | ((try clear hj_1); first | lia | grind [zu_at, zu_atL, zvn]))
      refine zw_zg32 4 (by decide) (by (try dsimp only); ((try clear hj_1); first | lia | grind [zu_at, zu_atL, zvn])) ?_
      refine zw_zb0 (sf_X11_letterOf (f4 p1.toNatClampNeg) p3) (fun o_12 ho_12 => ?_)
      obtain ⟨ho_12_0, ho_12_1⟩ := ho_12
      refine zw_some ?_
      first | exact True.intro | ((try dsimp only); (repeat' apply And.intro) <;> first | with_reducible assumption | ((try clear hj_1); first | lia | grind [zu_at, zu_atL, zvn]))
    refine zw_some ?_
    first | exact True.intro | ((try dsimp only); (repeat' apply And.intro) <;> first | with_reducible assumption | ((try clear hj_1); first | lia | grind [zu_at, zu_atL, zvn]))
  refine zw_if (fun c5 => ?_) (fun c5 => ?_)
  · refine zw_zb0 (sf_X9_hasNumber p1 v2_0 (by first | with_reducible assumption | exact ⟨by with_reducible assumption, by with_reducible assumption⟩ | ((try clear hj_1); first | lia | grind [zu_at, zu_atL, zvn]))) (fun o_17 ho_17 => ?_)
    obtain ⟨ho_17_0, ho_17_1, ho_17_2, ho_17_3, ho_17_4, ho_17_5⟩ := ho_17
    exact hj_1 _ (by first | exact True.intro | ((try dsimp only); (repeat' apply And.intro) <;> first | with_reducible assumption | ((try clear hj_1); first | lia | grind [zu_at, zu_atL, zvn])))
  refine zw_zb0 (sf_X9_hasFormat p1 v1_0 (by first | with_reducible assumption | exact ⟨by with_reducible assumption, by with_reducible assumption⟩ | ((try clear hj_1); first | lia | grind [zu_at, zu_atL, zvn]))) (fun o_21 ho_21 => ?_)
  obtain ⟨ho_21_0, ho_21_1, ho_21_2, ho_21_3, ho_21_4, ho_21_5⟩ := ho_21
  exact hj_1 _ (by first | exact True.intro | ((try dsimp only); (repeat' apply And.intro) <;> first | with_reducible assumption | ((try clear hj_1); first | lia | grind [zu_at, zu_atL, zvn])))
set_option maxHeartbeats 4000000 in
set_option maxRecDepth 100000 in
theorem sf_X11_format (p1 : Int32) (p2 : Int32) (v1_0 : Int32) (f2 : Nat → Int32) (f3 : Nat → Int32) (f4 : Nat → Int32) (h_v1_0 : 0 ≤ v1_0 ∧ v1_0 ≤ 4) : zw (fn_X11_format p1 p2 v1_0 f2 f3 f4) (fun r => True) := by
  unfold fn_X11_format
  refine zw_zb0 (sf_X9_hasFormat p1 v1_0 (by first | with_reducible assumption | exact ⟨by with_reducible assumption, by with_reducible assumption⟩ | first | lia | grind [zu_at, zu_atL, zvn])) (fun o_1 ho_1 => ?_)
  obtain ⟨ho_1_0, ho_1_1, ho_1_2, ho_1_3, ho_1_4, ho_1_5⟩ := ho_1
  refine zw_if (fun c1 => ?_) (fun c1 => ?_)
  · refine zw_some ?_
    first | exact True.intro | ((try dsimp only); (repeat' apply And.intro) <;> first | with_reducible assumption | first | lia | grind [zu_at, zu_atL, zvn])
  refine zw_if (fun c2 => ?_) (fun c2 => ?_)
  · refine zw_zg32 4 (by decide) (by (try dsimp only); first | lia | grind [zu_at, zu_atL, zvn]) ?_
    refine zw_some ?_
    first | exact True.intro | ((try dsimp only); (repeat' apply And.intro) <;> first | with_reducible assumption | first | lia | grind [zu_at, zu_atL, zvn])
  refine zw_if (fun c3 => ?_) (fun c3 => ?_)
  · refine zw_zg32 4 (by decide) (by (try dsimp only); first | lia | grind [zu_at, zu_atL, zvn]) ?_
    refine zw_some ?_
    first | exact True.intro | ((try dsimp only); (repeat' apply And.intro) <;> first | with_reducible assumption | first | lia | grind [zu_at, zu_atL, zvn])
  refine zw_if (fun c4 => ?_) (fun c4 => ?_)
  · refine zw_zg32 4 (by decide) (by (try dsimp only); first | lia | grind [zu_at, zu_atL, zvn]) ?_
    refine zw_some ?_
    first | exact True.intro | ((try dsimp only); (repeat' apply And.intro) <;> first | with_reducible assumption | first | lia | grind [zu_at, zu_atL, zvn])
  refine zw_some ?_
  first | exact True.intro | ((try dsimp only); (repeat' apply And.intro) <;> first | with_reducible assumption | first | lia | grind [zu_at, zu_atL, zvn])
set_option maxHeartbeats 4000000 in
set_option maxRecDepth 100000 in
theorem sf_X11_number (p1 : Int32) (p2 : Int32) (v2_0 : Int32) (f3 : Nat → Int32) (f4 : Nat → Int32) (f6 : Nat → Int32) (f7 : Nat → Int32) (f8 : Nat → Int32) (h_v2_0 : 0 ≤ v2_0 ∧ v2_0 ≤ 14) (h_f6 : (∀ i : Nat, 0 ≤ f6 i ∧ f6 i ≤ 13)) : zw (fn_X11_number p1 p2 v2_0 f3 f4 f6 f7 f8) (fun r => True) := by
  unfold fn_X11_number
  refine zw_zb0 (sf_X9_hasNumber p1 v2_0 (by first | with_reducible assumption | exact ⟨by with_reducible assumption, by with_reducible assumption⟩ | first | lia | grind [zu_at, zu_atL, zvn])) (fun o_1 ho_1 => ?_)
  obtain ⟨ho_1_0, ho_1_1, ho_1_2, ho_1_3, ho_1_4, ho_1_5⟩ := ho_1
  refine zw_if (fun c1 => ?_) (fun c1 => ?_)
  · refine zw_some ?_
    first | exact True.intro | ((try dsimp only); (repeat' apply And.intro) <;> first | with_reducible assumption | first | lia | grind [zu_at, zu_atL, zvn])
  refine zw_if (fun c2 => ?_) (fun c2 => ?_)
  · refine zw_zg32 14 (by decide) (by (try dsimp only); first | lia | grind [zu_at, zu_atL, zvn]) ?_
    refine zw_some ?_
    first | exact True.intro | ((try dsimp only); (repeat' apply And.intro) <;> first | with_reducible assumption | first | lia | grind [zu_at, zu_atL, zvn])
  refine zw_if (fun c3 => ?_) (fun c3 => ?_)
  · refine zw_zb0 (sf_X4_madeOf p1 0 v2_0 f4 (by first | with_reducible assumption | exact ⟨by with_reducible assumption, by with_reducible assumption⟩ | first | lia | grind [zu_at, zu_atL, zvn])) (fun o_9 ho_9 => ?_)
    refine zw_some ?_
    first | exact True.intro | ((try dsimp only); (repeat' apply And.intro) <;> first | with_reducible assumption | first | lia | grind [zu_at, zu_atL, zvn])
  refine zw_if (fun c4 => ?_) (fun c4 => ?_)
  · refine zw_zb0 (sf_X4_madeOf p1 1 v2_0 f4 (by first | with_reducible assumption | exact ⟨by with_reducible assumption, by with_reducible assumption⟩ | first | lia | grind [zu_at, zu_atL, zvn])) (fun o_14 ho_14 => ?_)
    refine zw_some ?_
    first | exact True.intro | ((try dsimp only); (repeat' apply And.intro) <;> first | with_reducible assumption | first | lia | grind [zu_at, zu_atL, zvn])
  refine zw_if (fun c5 => ?_) (fun c5 => ?_)
  · refine zw_zg32 14 (by decide) (by (try dsimp only); first | lia | grind [zu_at, zu_atL, zvn]) ?_
    refine zw_some ?_
    first | exact True.intro | ((try dsimp only); (repeat' apply And.intro) <;> first | with_reducible assumption | first | lia | grind [zu_at, zu_atL, zvn])
  refine zw_if (fun c6 => ?_) (fun c6 => ?_)
  · refine zw_zg32 14 (by decide) (by (try dsimp only); first | lia | grind [zu_at, zu_atL, zvn]) ?_
    refine zw_some ?_
    first | exact True.intro | ((try dsimp only); (repeat' apply And.intro) <;> first | with_reducible assumption | first | lia | grind [zu_at, zu_atL, zvn])
  refine zw_if (fun c7 => ?_) (fun c7 => ?_)
  · refine zw_zg32 14 (by decide) (by (try dsimp only); first | lia | grind [zu_at, zu_atL, zvn]) ?_
    refine zw_some ?_
    first | exact True.intro | ((try dsimp only); (repeat' apply And.intro) <;> first | with_reducible assumption | first | lia | grind [zu_at, zu_atL, zvn])
  refine zw_some ?_
  first | exact True.intro | ((try dsimp only); (repeat' apply And.intro) <;> first | with_reducible assumption | first | lia | grind [zu_at, zu_atL, zvn])
set_option maxHeartbeats 4000000 in
set_option maxRecDepth 100000 in
theorem sf_X11_told (p1 : Int32) (p2 : Int32) (v2_0 : Int32) (f3 : Nat → Int32) (f4 : Nat → Int32) (h_v2_0 : 0 ≤ v2_0 ∧ v2_0 ≤ 14) : zw (fn_X11_told p1 p2 v2_0 f3 f4) (fun r => True) := by
  unfold fn_X11_told
  refine zw_zb0 (sf_X9_hasNumber p1 v2_0 (by first | with_reducible assumption | exact ⟨by with_reducible assumption, by with_reducible assumption⟩ | first | lia | grind [zu_at, zu_atL, zvn])) (fun o_1 ho_1 => ?_)
  obtain ⟨ho_1_0, ho_1_1, ho_1_2, ho_1_3, ho_1_4, ho_1_5⟩ := ho_1
  refine zw_if (fun c1 => ?_) (fun c1 => ?_)
  · refine zw_some ?_
    first | exact True.intro | ((try dsimp only); (repeat' apply And.intro) <;> first | with_reducible assumption | first | lia | grind [zu_at, zu_atL, zvn])
  refine zw_if (fun c2 => ?_) (fun c2 => ?_)
  · refine zw_some ?_
    first | exact True.intro | ((try dsimp only); (repeat' apply And.intro) <;> first | with_reducible assumption | first | lia | grind [zu_at, zu_atL, zvn])
  refine zw_if (fun c3 => ?_) (fun c3 => ?_)
  · refine zw_zb0 (sf_X4_madeOf p1 p2 v2_0 f3 (by first | with_reducible assumption | exact ⟨by with_reducible assumption, by with_reducible assumption⟩ | first | lia | grind [zu_at, zu_atL, zvn])) (fun o_8 ho_8 => ?_)
    refine zw_if (fun c4 => ?_) (fun c4 => ?_)
    · refine zw_zb0 (sf_X4_amountOf p1 p2 v2_0 f4 (by first | with_reducible assumption | exact ⟨by with_reducible assumption, by with_reducible assumption⟩ | first | lia | grind [zu_at, zu_atL, zvn])) (fun o_13 ho_13 => ?_)
      refine zw_some ?_
      first | exact True.intro | ((try dsimp only); (repeat' apply And.intro) <;> first | with_reducible assumption | first | lia | grind [zu_at, zu_atL, zvn])
    refine zw_some ?_
    first | exact True.intro | ((try dsimp only); (repeat' apply And.intro) <;> first | with_reducible assumption | first | lia | grind [zu_at, zu_atL, zvn])
  refine zw_some ?_
  first | exact True.intro | ((try dsimp only); (repeat' apply And.intro) <;> first | with_reducible assumption | first | lia | grind [zu_at, zu_atL, zvn])
set_option maxHeartbeats 4000000 in
set_option maxRecDepth 100000 in
theorem sf_X11_range (p1 : Int32) (p2 : Int32) (v2_0 : Int32) (f4 : Nat → Int32) (f5 : Nat → Int64) (f6 : Nat → Int64) (h_p2 : 0 ≤ p2 ∧ p2 ≤ 1) (h_v2_0 : 0 ≤ v2_0 ∧ v2_0 ≤ 14) (h_f4 : (∀ i : Nat, 0 ≤ f4 i ∧ f4 i ≤ 1)) : zw (fn_X11_range p1 p2 v2_0 f4 f5 f6) (fun r => True) := by
  unfold fn_X11_range
  refine zw_zb0 (sf_X9_hasNumber p1 v2_0 (by first | with_reducible assumption | exact ⟨by with_reducible assumption, by with_reducible assumption⟩ | first | lia | grind [zu_at, zu_atL, zvn])) (fun o_1 ho_1 => ?_)
  obtain ⟨ho_1_0, ho_1_1, ho_1_2, ho_1_3, ho_1_4, ho_1_5⟩ := ho_1
  refine zw_if (fun c1 => ?_) (fun c1 => ?_)
  · refine zw_some ?_
    first | exact True.intro | ((try dsimp only); (repeat' apply And.intro) <;> first | with_reducible assumption | first | lia | grind [zu_at, zu_atL, zvn])
  refine zw_zg32 14 (by decide) (by (try dsimp only); first | lia | grind [zu_at, zu_atL, zvn]) ?_
  refine zw_if (fun c2 => ?_) (fun c2 => ?_)
  · refine zw_if (fun c3 => ?_) (fun c3 => ?_)
    · refine zw_some ?_
      first | exact True.intro | ((try dsimp only); (repeat' apply And.intro) <;> first | with_reducible assumption | first | lia | grind [zu_at, zu_atL, zvn])
    refine zw_some ?_
    first | exact True.intro | ((try dsimp only); (repeat' apply And.intro) <;> first | with_reducible assumption | first | lia | grind [zu_at, zu_atL, zvn])
  refine zw_some ?_
  first | exact True.intro | ((try dsimp only); (repeat' apply And.intro) <;> first | with_reducible assumption | first | lia | grind [zu_at, zu_atL, zvn])
set_option maxHeartbeats 4000000 in
set_option maxRecDepth 100000 in
theorem sf_X11_uses (p1 : Int32) (v2_0 : Int32) (f3 : Nat → Int32) (h_v2_0 : 0 ≤ v2_0 ∧ v2_0 ≤ 14) : zw (fn_X11_uses p1 v2_0 f3) (fun r => True) := by
  unfold fn_X11_uses
  refine zw_zb0 (sf_X9_hasNumber p1 v2_0 (by first | with_reducible assumption | exact ⟨by with_reducible assumption, by with_reducible assumption⟩ | first | lia | grind [zu_at, zu_atL, zvn])) (fun o_1 ho_1 => ?_)
  obtain ⟨ho_1_0, ho_1_1, ho_1_2, ho_1_3, ho_1_4, ho_1_5⟩ := ho_1
  refine zw_if (fun c1 => ?_) (fun c1 => ?_)
  · refine zw_some ?_
    first | exact True.intro | ((try dsimp only); (repeat' apply And.intro) <;> first | with_reducible assumption | first | lia | grind [zu_at, zu_atL, zvn])
  refine zw_zb0 (sf_X4_madeFrom p1 v2_0 f3 (by first | with_reducible assumption | exact ⟨by with_reducible assumption, by with_reducible assumption⟩ | first | lia | grind [zu_at, zu_atL, zvn]) (by first | with_reducible assumption | exact ⟨by with_reducible assumption, by with_reducible assumption⟩ | first | lia | grind [zu_at, zu_atL, zvn])) (fun o_6 ho_6 => ?_)
  refine zw_some ?_
  first | exact True.intro | ((try dsimp only); (repeat' apply And.intro) <;> first | with_reducible assumption | first | lia | grind [zu_at, zu_atL, zvn])
set_option maxHeartbeats 4000000 in
set_option maxRecDepth 100000 in
theorem sf_X11_depth (p1 : Int32) (v2_0 : Int32) (f3 : Nat → Int32) (h_v2_0 : 0 ≤ v2_0 ∧ v2_0 ≤ 14) : zw (fn_X11_depth p1 v2_0 f3) (fun r => True) := by
  unfold fn_X11_depth
  refine zw_zb0 (sf_X9_hasNumber p1 v2_0 (by first | with_reducible assumption | exact ⟨by with_reducible assumption, by with_reducible assumption⟩ | first | lia | grind [zu_at, zu_atL, zvn])) (fun o_1 ho_1 => ?_)
  obtain ⟨ho_1_0, ho_1_1, ho_1_2, ho_1_3, ho_1_4, ho_1_5⟩ := ho_1
  refine zw_if (fun c1 => ?_) (fun c1 => ?_)
  · refine zw_some ?_
    first | exact True.intro | ((try dsimp only); (repeat' apply And.intro) <;> first | with_reducible assumption | first | lia | grind [zu_at, zu_atL, zvn])
  refine zw_zg32 14 (by decide) (by (try dsimp only); first | lia | grind [zu_at, zu_atL, zvn]) ?_
  refine zw_some ?_
  first | exact True.intro | ((try dsimp only); (repeat' apply And.intro) <;> first | with_reducible assumption | first | lia | grind [zu_at, zu_atL, zvn])
set_option maxHeartbeats 4000000 in
set_option maxRecDepth 100000 in
theorem sf_X11_chosen (p1 : Int32) (v2_0 : Int32) (v3_2 : Int32) (f4 : Nat → Int32) (f5 : Nat → Int32) (h_v2_0 : 0 ≤ v2_0 ∧ v2_0 ≤ 14) (h_v3_2 : 0 ≤ v3_2 ∧ v3_2 ≤ 1) (h_f4 : (∀ i : Nat, 0 ≤ f4 i ∧ f4 i ≤ 13)) : zw (fn_X11_chosen p1 v2_0 v3_2 f4 f5) (fun r => True) := by
  unfold fn_X11_chosen
  refine zw_zb0 (sf_X9_hasChoice v2_0 v3_2 (by first | with_reducible assumption | exact ⟨by with_reducible assumption, by with_reducible assumption⟩ | first | lia | grind [zu_at, zu_atL, zvn]) (by first | with_reducible assumption | exact ⟨by with_reducible assumption, by with_reducible assumption⟩ | first | lia | grind [zu_at, zu_atL, zvn])) (fun o_1 ho_1 => ?_)
  obtain ⟨ho_1_0, ho_1_1, ho_1_2, ho_1_3, ho_1_4, ho_1_5, ho_1_6⟩ := ho_1
  refine zw_if (fun c1 => ?_) (fun c1 => ?_)
  · refine zw_some ?_
    first | exact True.intro | ((try dsimp only); (repeat' apply And.intro) <;> first | with_reducible assumption | first | lia | grind [zu_at, zu_atL, zvn])
  refine zw_zb0 (sf_X9_hasNumber p1 v2_0 (by first | with_reducible assumption | exact ⟨by with_reducible assumption, by with_reducible assumption⟩ | first | lia | grind [zu_at, zu_atL, zvn])) (fun o_6 ho_6 => ?_)
  obtain ⟨ho_6_0, ho_6_1, ho_6_2, ho_6_3, ho_6_4, ho_6_5⟩ := ho_6
  refine zw_if (fun c2 => ?_) (fun c2 => ?_)
  · refine zw_some ?_
    first | exact True.intro | ((try dsimp only); (repeat' apply And.intro) <;> first | with_reducible assumption | first | lia | grind [zu_at, zu_atL, zvn])
  refine zw_zb0 (sf_X9_formatOf p1 v2_0 f4 f5 (by first | with_reducible assumption | exact ⟨by with_reducible assumption, by with_reducible assumption⟩ | first | lia | grind [zu_at, zu_atL, zvn]) (by first | with_reducible assumption | exact ⟨by with_reducible assumption, by with_reducible assumption⟩ | first | lia | grind [zu_at, zu_atL, zvn])) (fun o_11 ho_11 => ?_)
  refine zw_some ?_
  first | exact True.intro | ((try dsimp only); (repeat' apply And.intro) <;> first | with_reducible assumption | first | lia | grind [zu_at, zu_atL, zvn])
set_option maxHeartbeats 4000000 in
set_option maxRecDepth 100000 in
theorem sf_X11_choose (p1 : Int32) (p2 : Int32) (v1_0 : Int32) (v2_0 : Int32) (v3_0 : Int32) (v3_2 : Int32) (f4 : Nat → Int32) (f5 : Nat → Int32) (f6 : Nat → Int32) (f7 : Nat → Int32) (h_v1_0 : 0 ≤ v1_0 ∧ v1_0 ≤ 4) (h_v2_0 : 0 ≤ v2_0 ∧ v2_0 ≤ 14) (h_v3_0 : 0 ≤ v3_0 ∧ v3_0 ≤ 14) (h_v3_2 : 0 ≤ v3_2 ∧ v3_2 ≤ 1) (h_f5 : (∀ i : Nat, 0 ≤ f5 i ∧ f5 i ≤ 13)) : zw (fn_X11_choose p1 p2 v1_0 v2_0 v3_0 v3_2 f4 f5 f6 f7) (fun r => True) := by
  unfold fn_X11_choose
  refine zw_zb0 (sf_X9_hasChoice v2_0 v3_2 (by first | with_reducible assumption | exact ⟨by with_reducible assumption, by with_reducible assumption⟩ | first | lia | grind [zu_at, zu_atL, zvn]) (by first | with_reducible assumption | exact ⟨by with_reducible assumption, by with_reducible assumption⟩ | first | lia | grind [zu_at, zu_atL, zvn])) (fun o_1 ho_1 => ?_)
  obtain ⟨ho_1_0, ho_1_1, ho_1_2, ho_1_3, ho_1_4, ho_1_5, ho_1_6⟩ := ho_1
  refine zw_if (fun c1 => ?_) (fun c1 => ?_)
  · refine zw_zb0 (sf_X11_refuse 2 f4) (fun o_6 ho_6 => ?_)
    obtain ⟨o_6_0, o_6_1⟩ := o_6
    try dsimp only at ho_6
    obtain ⟨ho_6_0, ho_6_1⟩ := ho_6
    refine zw_some ?_
    first | exact True.intro | ((try dsimp only); (repeat' apply And.intro) <;> first | with_reducible assumption | first | lia | grind [zu_at, zu_atL, zvn])
  refine zw_zb0 (sf_X9_hasFormat p2 v1_0 (by first | with_reducible assumption | exact ⟨by with_reducible assumption, by with_reducible assumption⟩ | first | lia | grind [zu_at, zu_atL, zvn])) (fun o_10 ho_10 => ?_)
  obtain ⟨ho_10_0, ho_10_1, ho_10_2, ho_10_3, ho_10_4, ho_10_5⟩ := ho_10
  refine zw_if (fun c2 => ?_) (fun c2 => ?_)
  · refine zw_zb0 (sf_X11_refuse 2 f4) (fun o_15 ho_15 => ?_)
    obtain ⟨o_15_0, o_15_1⟩ := o_15
    try dsimp only at ho_15
    obtain ⟨ho_15_0, ho_15_1⟩ := ho_15
    refine zw_some ?_
    first | exact True.intro | ((try dsimp only); (repeat' apply And.intro) <;> first | with_reducible assumption | first | lia | grind [zu_at, zu_atL, zvn])
  refine zw_zb0 (sf_X9_isFree p1 v2_0 v3_0 f5 f6 (by first | with_reducible assumption | exact ⟨by with_reducible assumption, by with_reducible assumption⟩ | first | lia | grind [zu_at, zu_atL, zvn]) (by first | with_reducible assumption | exact ⟨by with_reducible assumption, by with_reducible assumption⟩ | first | lia | grind [zu_at, zu_atL, zvn]) (by first | with_reducible assumption | exact ⟨by with_reducible assumption, by with_reducible assumption⟩ | first | lia | grind [zu_at, zu_atL, zvn])) (fun o_19 ho_19 => ?_)
  obtain ⟨ho_19_0, ho_19_1, ho_19_2, ho_19_3, ho_19_4, ho_19_5, ho_19_6⟩ := ho_19
  refine zw_if (fun c3 => ?_) (fun c3 => ?_)
  · refine zw_zb0 (sf_X11_refuse 2 f4) (fun o_26 ho_26 => ?_)
    obtain ⟨o_26_0, o_26_1⟩ := o_26
    try dsimp only at ho_26
    obtain ⟨ho_26_0, ho_26_1⟩ := ho_26
    refine zw_some ?_
    first | exact True.intro | ((try dsimp only); (repeat' apply And.intro) <;> first | with_reducible assumption | first | lia | grind [zu_at, zu_atL, zvn])
  refine zw_zg32 14 (by decide) (by (try dsimp only); first | lia | grind [zu_at, zu_atL, zvn]) ?_
  refine zw_zg32 14 (by decide) (by (try dsimp only); first | lia | grind [zu_at, zu_atL, zvn]) ?_
  refine zw_some ?_
  first | exact True.intro | ((try dsimp only); (repeat' apply And.intro) <;> first | with_reducible assumption | first | lia | grind [zu_at, zu_atL, zvn])
set_option maxHeartbeats 4000000 in
set_option maxRecDepth 100000 in
theorem sf_X11_cost (v1_0 : Int32) (v1_5 : Int32) (v2_0 : Int32) (v3_2 : Int32) (f4 : Nat → Int32) (f5 : Nat → Int32) (f6 : Nat → Int32) (f7 : Nat → Int32) (h_v1_0 : 0 ≤ v1_0 ∧ v1_0 ≤ 4) (h_v2_0 : 0 ≤ v2_0 ∧ v2_0 ≤ 14) (h_v3_2 : 0 ≤ v3_2 ∧ v3_2 ≤ 1) (h_f5 : (∀ i : Nat, 0 ≤ f5 i ∧ f5 i ≤ 13)) : zw (fn_X11_cost v1_0 v1_5 v2_0 v3_2 f4 f5 f6 f7) (fun r => True) := by
  unfold fn_X11_cost
  refine zw_zb0 (sf_X9_hasChoice v2_0 v3_2 (by first | with_reducible assumption | exact ⟨by with_reducible assumption, by with_reducible assumption⟩ | first | lia | grind [zu_at, zu_atL, zvn]) (by first | with_reducible assumption | exact ⟨by with_reducible assumption, by with_reducible assumption⟩ | first | lia | grind [zu_at, zu_atL, zvn])) (fun o_1 ho_1 => ?_)
  obtain ⟨ho_1_0, ho_1_1, ho_1_2, ho_1_3, ho_1_4, ho_1_5, ho_1_6⟩ := ho_1
  refine zw_if (fun c1 => ?_) (fun c1 => ?_)
  · refine zw_some ?_
    first | exact True.intro | ((try dsimp only); (repeat' apply And.intro) <;> first | with_reducible assumption | first | lia | grind [zu_at, zu_atL, zvn])
  refine zw_zb0 (sf_X9_priceOf v1_0 v1_5 v2_0 f4 f5 f6 f7 (by first | with_reducible assumption | exact ⟨by with_reducible assumption, by with_reducible assumption⟩ | first | lia | grind [zu_at, zu_atL, zvn]) (by first | with_reducible assumption | exact ⟨by with_reducible assumption, by with_reducible assumption⟩ | first | lia | grind [zu_at, zu_atL, zvn]) (by first | with_reducible assumption | exact ⟨by with_reducible assumption, by with_reducible assumption⟩ | first | lia | grind [zu_at, zu_atL, zvn])) (fun o_6 ho_6 => ?_)
  refine zw_some ?_
  first | exact True.intro | ((try dsimp only); (repeat' apply And.intro) <;> first | with_reducible assumption | first | lia | grind [zu_at, zu_atL, zvn])
set_option maxHeartbeats 4000000 in
set_option maxRecDepth 100000 in
theorem sf_X11_casts (v2_0 : Int32) (v3_2 : Int32) (f4 : Nat → Int32) (f5 : Nat → Int32) (f6 : Nat → Int32) (h_v2_0 : 0 ≤ v2_0 ∧ v2_0 ≤ 14) (h_v3_2 : 0 ≤ v3_2 ∧ v3_2 ≤ 1) (h_f5 : (∀ i : Nat, 0 ≤ f5 i ∧ f5 i ≤ 13)) : zw (fn_X11_casts v2_0 v3_2 f4 f5 f6) (fun r => True) := by
  unfold fn_X11_casts
  refine zw_zb0 (sf_X9_hasChoice v2_0 v3_2 (by first | with_reducible assumption | exact ⟨by with_reducible assumption, by with_reducible assumption⟩ | first | lia | grind [zu_at, zu_atL, zvn]) (by first | with_reducible assumption | exact ⟨by with_reducible assumption, by with_reducible assumption⟩ | first | lia | grind [zu_at, zu_atL, zvn])) (fun o_1 ho_1 => ?_)
  obtain ⟨ho_1_0, ho_1_1, ho_1_2, ho_1_3, ho_1_4, ho_1_5, ho_1_6⟩ := ho_1
  refine zw_if (fun c1 => ?_) (fun c1 => ?_)
  · refine zw_some ?_
    first | exact True.intro | ((try dsimp only); (repeat' apply And.intro) <;> first | with_reducible assumption | first | lia | grind [zu_at, zu_atL, zvn])
  refine zw_zb0 (sf_X9_castsOf v2_0 f4 f5 f6 (by first | with_reducible assumption | exact ⟨by with_reducible assumption, by with_reducible assumption⟩ | first | lia | grind [zu_at, zu_atL, zvn]) (by first | with_reducible assumption | exact ⟨by with_reducible assumption, by with_reducible assumption⟩ | first | lia | grind [zu_at, zu_atL, zvn])) (fun o_6 ho_6 => ?_)
  refine zw_some ?_
  first | exact True.intro | ((try dsimp only); (repeat' apply And.intro) <;> first | with_reducible assumption | first | lia | grind [zu_at, zu_atL, zvn])
set_option maxHeartbeats 4000000 in
set_option maxRecDepth 100000 in
theorem sf_X11_fails (v1_0 : Int32) (v2_0 : Int32) (v3_2 : Int32) (v4_1 : Int32) (v4_2 : Int32) (f5 : Nat → Int32) (f6 : Nat → Int32) (f7 : Nat → Int32) (f8 : Nat → Int32) (f9 : Nat → Int32) (f10 : Nat → Int64) (f11 : Nat → Int32) (f13 : Nat → Int64) (f14 : Nat → Int64) (f15 : Nat → Int32) (f16 : Nat → Int32) (h_v1_0 : 0 ≤ v1_0 ∧ v1_0 ≤ 4) (h_v2_0 : 0 ≤ v2_0 ∧ v2_0 ≤ 14) (h_v3_2 : 0 ≤ v3_2 ∧ v3_2 ≤ 1) (h_f5 : (∀ i : Nat, 0 ≤ f5 i ∧ f5 i ≤ 13)) : zw (fn_X11_fails v1_0 v2_0 v3_2 v4_1 v4_2 f5 f6 f7 f8 f9 f10 f11 f13 f14 f15 f16) (fun r => (-2) ≤ r.1 ∧ r.1 ≤ 13) := by
  unfold fn_X11_fails
  refine zw_zb0 (sf_X9_hasChoice v2_0 v3_2 (by first | with_reducible assumption | exact ⟨by with_reducible assumption, by with_reducible assumption⟩ | first | lia | grind [zu_at, zu_atL, zvn]) (by first | with_reducible assumption | exact ⟨by with_reducible assumption, by with_reducible assumption⟩ | first | lia | grind [zu_at, zu_atL, zvn])) (fun o_1 ho_1 => ?_)
  obtain ⟨ho_1_0, ho_1_1, ho_1_2, ho_1_3, ho_1_4, ho_1_5, ho_1_6⟩ := ho_1
  refine zw_if (fun c1 => ?_) (fun c1 => ?_)
  · refine zw_some ?_
    first | exact True.intro | ((try dsimp only); (repeat' apply And.intro) <;> first | with_reducible assumption | first | lia | grind [zu_at, zu_atL, zvn])
  refine zw_zb0 (sf_X7_reckon v1_0 v2_0 f5 f6 f7 f8 f9 f10 f11 f13 f14 f15 f16 (by first | with_reducible assumption | exact ⟨by with_reducible assumption, by with_reducible assumption⟩ | first | lia | grind [zu_at, zu_atL, zvn]) (by first | with_reducible assumption | exact ⟨by with_reducible assumption, by with_reducible assumption⟩ | first | lia | grind [zu_at, zu_atL, zvn]) (by first | with_reducible assumption | exact ⟨by with_reducible assumption, by with_reducible assumption⟩ | first | lia | grind [zu_at, zu_atL, zvn])) (fun o_6 ho_6 => ?_)
  obtain ⟨o_6_0, o_6_1, o_6_2, o_6_3⟩ := o_6
  try dsimp only at ho_6
  obtain ⟨ho_6_0, ho_6_1, ho_6_2, ho_6_3, ho_6_4, ho_6_5, ho_6_6, ho_6_7, ho_6_8, ho_6_9, ho_6_10, ho_6_11⟩ := ho_6
  refine zw_some ?_
  first | exact True.intro | ((try dsimp only); (repeat' apply And.intro) <;> first | with_reducible assumption | first | lia | grind [zu_at, zu_atL, zvn])
set_option maxHeartbeats 4000000 in
set_option maxRecDepth 100000 in
theorem sf_X11_why (v1_0 : Int32) (v2_0 : Int32) (v3_2 : Int32) (v4_1 : Int32) (v4_2 : Int32) (f5 : Nat → Int32) (f6 : Nat → Int32) (f7 : Nat → Int32) (f8 : Nat → Int32) (f9 : Nat → Int32) (f10 : Nat → Int64) (f11 : Nat → Int32) (f13 : Nat → Int64) (f14 : Nat → Int64) (f15 : Nat → Int32) (f16 : Nat → Int32) (h_v1_0 : 0 ≤ v1_0 ∧ v1_0 ≤ 4) (h_v2_0 : 0 ≤ v2_0 ∧ v2_0 ≤ 14) (h_v3_2 : 0 ≤ v3_2 ∧ v3_2 ≤ 1) (h_f5 : (∀ i : Nat, 0 ≤ f5 i ∧ f5 i ≤ 13)) : zw (fn_X11_why v1_0 v2_0 v3_2 v4_1 v4_2 f5 f6 f7 f8 f9 f10 f11 f13 f14 f15 f16) (fun r => (-1) ≤ r.1 ∧ r.1 ≤ 2) := by
  unfold fn_X11_why
  refine zw_zb0 (sf_X9_hasChoice v2_0 v3_2 (by first | with_reducible assumption | exact ⟨by with_reducible assumption, by with_reducible assumption⟩ | first | lia | grind [zu_at, zu_atL, zvn]) (by first | with_reducible assumption | exact ⟨by with_reducible assumption, by with_reducible assumption⟩ | first | lia | grind [zu_at, zu_atL, zvn])) (fun o_1 ho_1 => ?_)
  obtain ⟨ho_1_0, ho_1_1, ho_1_2, ho_1_3, ho_1_4, ho_1_5, ho_1_6⟩ := ho_1
  refine zw_if (fun c1 => ?_) (fun c1 => ?_)
  · refine zw_some ?_
    first | exact True.intro | ((try dsimp only); (repeat' apply And.intro) <;> first | with_reducible assumption | first | lia | grind [zu_at, zu_atL, zvn])
  refine zw_zb0 (sf_X7_reckon v1_0 v2_0 f5 f6 f7 f8 f9 f10 f11 f13 f14 f15 f16 (by first | with_reducible assumption | exact ⟨by with_reducible assumption, by with_reducible assumption⟩ | first | lia | grind [zu_at, zu_atL, zvn]) (by first | with_reducible assumption | exact ⟨by with_reducible assumption, by with_reducible assumption⟩ | first | lia | grind [zu_at, zu_atL, zvn]) (by first | with_reducible assumption | exact ⟨by with_reducible assumption, by with_reducible assumption⟩ | first | lia | grind [zu_at, zu_atL, zvn])) (fun o_6 ho_6 => ?_)
  obtain ⟨o_6_0, o_6_1, o_6_2, o_6_3⟩ := o_6
  try dsimp only at ho_6
  obtain ⟨ho_6_0, ho_6_1, ho_6_2, ho_6_3, ho_6_4, ho_6_5, ho_6_6, ho_6_7, ho_6_8, ho_6_9, ho_6_10, ho_6_11⟩ := ho_6
  refine zw_some ?_
  first | exact True.intro | ((try dsimp only); (repeat' apply And.intro) <;> first | with_reducible assumption | first | lia | grind [zu_at, zu_atL, zvn])
set_option maxHeartbeats 4000000 in
set_option maxRecDepth 100000 in
theorem sf_X11_error (p1 : Int32) (v1_0 : Int32) (v2_0 : Int32) (v3_2 : Int32) (v4_1 : Int32) (v4_2 : Int32) (f5 : Nat → Int32) (f6 : Nat → Int32) (f7 : Nat → Int32) (f8 : Nat → Int32) (f9 : Nat → Int32) (f10 : Nat → Int64) (f11 : Nat → Int32) (f13 : Nat → Int64) (f14 : Nat → Int64) (f15 : Nat → Int32) (f16 : Nat → Int32) (h_v1_0 : 0 ≤ v1_0 ∧ v1_0 ≤ 4) (h_v2_0 : 0 ≤ v2_0 ∧ v2_0 ≤ 14) (h_v3_2 : 0 ≤ v3_2 ∧ v3_2 ≤ 1) (h_f5 : (∀ i : Nat, 0 ≤ f5 i ∧ f5 i ≤ 13)) : zw (fn_X11_error p1 v1_0 v2_0 v3_2 v4_1 v4_2 f5 f6 f7 f8 f9 f10 f11 f13 f14 f15 f16) (fun r => True) := by
  unfold fn_X11_error
  refine zw_zb0 (sf_X9_hasChoice v2_0 v3_2 (by first | with_reducible assumption | exact ⟨by with_reducible assumption, by with_reducible assumption⟩ | first | lia | grind [zu_at, zu_atL, zvn]) (by first | with_reducible assumption | exact ⟨by with_reducible assumption, by with_reducible assumption⟩ | first | lia | grind [zu_at, zu_atL, zvn])) (fun o_1 ho_1 => ?_)
  obtain ⟨ho_1_0, ho_1_1, ho_1_2, ho_1_3, ho_1_4, ho_1_5, ho_1_6⟩ := ho_1
  refine zw_if (fun c1 => ?_) (fun c1 => ?_)
  · refine zw_some ?_
    first | exact True.intro | ((try dsimp only); (repeat' apply And.intro) <;> first | with_reducible assumption | first | lia | grind [zu_at, zu_atL, zvn])
  refine zw_zb0 (sf_X9_hasNumber p1 v2_0 (by first | with_reducible assumption | exact ⟨by with_reducible assumption, by with_reducible assumption⟩ | first | lia | grind [zu_at, zu_atL, zvn])) (fun o_6 ho_6 => ?_)
  obtain ⟨ho_6_0, ho_6_1, ho_6_2, ho_6_3, ho_6_4, ho_6_5⟩ := ho_6
  refine zw_if (fun c2 => ?_) (fun c2 => ?_)
  · refine zw_some ?_
    first | exact True.intro | ((try dsimp only); (repeat' apply And.intro) <;> first | with_reducible assumption | first | lia | grind [zu_at, zu_atL, zvn])
  refine zw_zb0 (sf_X7_reckon v1_0 v2_0 f5 f6 f7 f8 f9 f10 f11 f13 f14 f15 f16 (by first | with_reducible assumption | exact ⟨by with_reducible assumption, by with_reducible assumption⟩ | first | lia | grind [zu_at, zu_atL, zvn]) (by first | with_reducible assumption | exact ⟨by with_reducible assumption, by with_reducible assumption⟩ | first | lia | grind [zu_at, zu_atL, zvn]) (by first | with_reducible assumption | exact ⟨by with_reducible assumption, by with_reducible assumption⟩ | first | lia | grind [zu_at, zu_atL, zvn])) (fun o_11 ho_11 => ?_)
  obtain ⟨o_11_0, o_11_1, o_11_2, o_11_3⟩ := o_11
  try dsimp only at ho_11
  obtain ⟨ho_11_0, ho_11_1, ho_11_2, ho_11_3, ho_11_4, ho_11_5, ho_11_6, ho_11_7, ho_11_8, ho_11_9, ho_11_10, ho_11_11⟩ := ho_11
  refine zw_if (fun c3 => ?_) (fun c3 => ?_)
  · refine zw_if (fun c4 => ?_) (fun c4 => ?_)
    · refine zw_some ?_
      first | exact True.intro | ((try dsimp only); (repeat' apply And.intro) <;> first | with_reducible assumption | first | lia | grind [zu_at, zu_atL, zvn])
    refine zw_zg32 14 (by decide) (by (try dsimp only); first | lia | grind [zu_at, zu_atL, zvn]) ?_
    refine zw_some ?_
    first | exact True.intro | ((try dsimp only); (repeat' apply And.intro) <;> first | with_reducible assumption | first | lia | grind [zu_at, zu_atL, zvn])
  refine zw_zg32 14 (by decide) (by (try dsimp only); first | lia | grind [zu_at, zu_atL, zvn]) ?_
  refine zw_some ?_
  first | exact True.intro | ((try dsimp only); (repeat' apply And.intro) <;> first | with_reducible assumption | first | lia | grind [zu_at, zu_atL, zvn])
set_option maxHeartbeats 4000000 in
set_option maxRecDepth 100000 in
theorem sf_X11_handPasses (v1_0 : Int32) (v2_0 : Int32) (v3_2 : Int32) (v4_1 : Int32) (v4_2 : Int32) (f5 : Nat → Int32) (f6 : Nat → Int32) (f7 : Nat → Int32) (f8 : Nat → Int32) (f9 : Nat → Int32) (f10 : Nat → Int64) (f11 : Nat → Int32) (f13 : Nat → Int64) (f14 : Nat → Int64) (f15 : Nat → Int32) (f16 : Nat → Int32) (h_v1_0 : 0 ≤ v1_0 ∧ v1_0 ≤ 4) (h_v2_0 : 0 ≤ v2_0 ∧ v2_0 ≤ 14) (h_v3_2 : 0 ≤ v3_2 ∧ v3_2 ≤ 1) (h_f5 : (∀ i : Nat, 0 ≤ f5 i ∧ f5 i ≤ 13)) : zw (fn_X11_handPasses v1_0 v2_0 v3_2 v4_1 v4_2 f5 f6 f7 f8 f9 f10 f11 f13 f14 f15 f16) (fun r => 0 ≤ r.1 ∧ r.1 ≤ 1 ∧ r.1 ≤ v2_0 ∧ (r.1 = 0 → r.1 ≤ v1_0 ∧ r.1 ≤ v3_2) ∧ (¬ r.1 = 0 → 1 ≤ r.1 ∧ (-2) ≤ r.2.1 ∧ 0 ≤ r.2.2.1 ∧ r.2.1 ≤ (-2) ∧ r.2.2.1 ≤ 0 ∧ v3_2 ≤ 0) ∧ (r.1 = 1 → (-2) ≤ r.2.1 ∧ 0 ≤ r.2.2.1 ∧ r.2.1 ≤ (-2) ∧ r.2.2.1 ≤ 0 ∧ 1 ≤ v2_0 ∧ v3_2 ≤ 0 ∧ r.2.2.1 < r.1) ∧ (¬ r.1 = 1 → r.1 ≤ 0)) := by
  unfold fn_X11_handPasses
  refine zw_zb0 (sf_X9_hasChoice v2_0 v3_2 (by first | with_reducible assumption | exact ⟨by with_reducible assumption, by with_reducible assumption⟩ | first | lia | grind [zu_at, zu_atL, zvn]) (by first | with_reducible assumption | exact ⟨by with_reducible assumption, by with_reducible assumption⟩ | first | lia | grind [zu_at, zu_atL, zvn])) (fun o_1 ho_1 => ?_)
  obtain ⟨ho_1_0, ho_1_1, ho_1_2, ho_1_3, ho_1_4, ho_1_5, ho_1_6⟩ := ho_1
  refine zw_if (fun c1 => ?_) (fun c1 => ?_)
  · refine zw_some ?_
    first | exact True.intro | ((try dsimp only); (repeat' apply And.intro) <;> first | with_reducible assumption | first | lia | grind [zu_at, zu_atL, zvn])
  refine zw_zb0 (sf_X7_reckon v1_0 v2_0 f5 f6 f7 f8 f9 f10 f11 f13 f14 f15 f16 (by first | with_reducible assumption | exact ⟨by with_reducible assumption, by with_reducible assumption⟩ | first | lia | grind [zu_at, zu_atL, zvn]) (by first | with_reducible assumption | exact ⟨by with_reducible assumption, by with_reducible assumption⟩ | first | lia | grind [zu_at, zu_atL, zvn]) (by first | with_reducible assumption | exact ⟨by with_reducible assumption, by with_reducible assumption⟩ | first | lia | grind [zu_at, zu_atL, zvn])) (fun o_6 ho_6 => ?_)
  obtain ⟨o_6_0, o_6_1, o_6_2, o_6_3⟩ := o_6
  try dsimp only at ho_6
  obtain ⟨ho_6_0, ho_6_1, ho_6_2, ho_6_3, ho_6_4, ho_6_5, ho_6_6, ho_6_7, ho_6_8, ho_6_9, ho_6_10, ho_6_11⟩ := ho_6
  refine zw_if (fun c2 => ?_) (fun c2 => ?_)
  · refine zw_some ?_
    first | exact True.intro | ((try dsimp only); (repeat' apply And.intro) <;> first | with_reducible assumption | first | lia | grind [zu_at, zu_atL, zvn])
  refine zw_some ?_
  first | exact True.intro | ((try dsimp only); (repeat' apply And.intro) <;> first | with_reducible assumption | first | lia | grind [zu_at, zu_atL, zvn])
set_option maxHeartbeats 4000000 in
set_option maxRecDepth 100000 in
theorem sf_X11_slack (p1 : Int32) (v1_0 : Int32) (v2_0 : Int32) (f3 : Nat → Int32) (v4_2 : Int32) (v5_1 : Int32) (v5_2 : Int32) (f6 : Nat → Int32) (f7 : Nat → Int32) (f8 : Nat → Int32) (f9 : Nat → Int32) (f10 : Nat → Int32) (f11 : Nat → Int64) (f12 : Nat → Int32) (f14 : Nat → Int64) (f15 : Nat → Int64) (f16 : Nat → Int32) (h_v1_0 : 0 ≤ v1_0 ∧ v1_0 ≤ 4) (h_v2_0 : 0 ≤ v2_0 ∧ v2_0 ≤ 14) (h_v4_2 : 0 ≤ v4_2 ∧ v4_2 ≤ 1) (h_f6 : (∀ i : Nat, 0 ≤ f6 i ∧ f6 i ≤ 13)) : zw (fn_X11_slack p1 v1_0 v2_0 f3 v4_2 v5_1 v5_2 f6 f7 f8 f9 f10 f11 f12 f14 f15 f16) (fun r => True) := by
  unfold fn_X11_slack
  refine zw_zb0 (sf_X9_isAnswer p1 v2_0 f3 (by first | with_reducible assumption | exact ⟨by with_reducible assumption, by with_reducible assumption⟩ | first | lia | grind [zu_at, zu_atL, zvn])) (fun o_1 ho_1 => ?_)
  obtain ⟨ho_1_0, ho_1_1, ho_1_2, ho_1_3, ho_1_4, ho_1_5⟩ := ho_1
  refine zw_if (fun c1 => ?_) (fun c1 => ?_)
  · refine zw_some ?_
    first | exact True.intro | ((try dsimp only); (repeat' apply And.intro) <;> first | with_reducible assumption | first | lia | grind [zu_at, zu_atL, zvn])
  refine zw_zb0 (sf_X11_handPasses v1_0 v2_0 v4_2 v5_1 v5_2 f6 f7 f8 f9 f10 f11 f12 f14 f15 f16 f3 (by first | with_reducible assumption | exact ⟨by with_reducible assumption, by with_reducible assumption⟩ | first | lia | grind [zu_at, zu_atL, zvn]) (by first | with_reducible assumption | exact ⟨by with_reducible assumption, by with_reducible assumption⟩ | first | lia | grind [zu_at, zu_atL, zvn]) (by first | with_reducible assumption | exact ⟨by with_reducible assumption, by with_reducible assumption⟩ | first | lia | grind [zu_at, zu_atL, zvn]) (by first | with_reducible assumption | exact ⟨by with_reducible assumption, by with_reducible assumption⟩ | first | lia | grind [zu_at, zu_atL, zvn])) (fun o_6 ho_6 => ?_)
  obtain ⟨o_6_0, o_6_1, o_6_2, o_6_3⟩ := o_6
  try dsimp only at ho_6
  obtain ⟨ho_6_0, ho_6_1, ho_6_2, ho_6_3, ho_6_4, ho_6_5, ho_6_6⟩ := ho_6
  refine zw_if (fun c2 => ?_) (fun c2 => ?_)
  · refine zw_some ?_
    first | exact True.intro | ((try dsimp only); (repeat' apply And.intro) <;> first | with_reducible assumption | first | lia | grind [zu_at, zu_atL, zvn])
  refine zw_zg32 14 (by decide) (by (try dsimp only); first | lia | grind [zu_at, zu_atL, zvn]) ?_
  refine zw_some ?_
  first | exact True.intro | ((try dsimp only); (repeat' apply And.intro) <;> first | with_reducible assumption | first | lia | grind [zu_at, zu_atL, zvn])
set_option maxHeartbeats 4000000 in
set_option maxRecDepth 100000 in
theorem sf_X11_passesLonger (p1 : Int32) (p2 : Int32) (v1_0 : Int32) (v3_0 : Int32) (f4 : Nat → Int32) (f5 : Nat → Int32) (f6 : Nat → Int32) (f7 : Nat → Int64) (f8 : Nat → Int64) (f9 : Nat → Int32) (f12 : Nat → Int32) (f13 : Nat → Int32) (f14 : Nat → Int32) (f15 : Nat → Int64) (f16 : Nat → Int32) (f17 : Nat → Int32) (h_v1_0 : 0 ≤ v1_0 ∧ v1_0 ≤ 4) (h_v3_0 : 0 ≤ v3_0 ∧ v3_0 ≤ 14) (h_f9 : (∀ i : Nat, 0 ≤ f9 i ∧ f9 i ≤ 1)) (h_f12 : (∀ i : Nat, 0 ≤ f12 i ∧ f12 i ≤ 13)) : zw (fn_X11_passesLonger p1 p2 v1_0 v3_0 f4 f5 f6 f7 f8 f9 f12 f13 f14 f15 f16 f17) (fun r => 0 ≤ r.1 ∧ r.1 ≤ 1 ∧ (∀ i : Nat, 0 ≤ r.2.2.2.1 i ∧ r.2.2.2.1 i ≤ 1) ∧ (-2) ≤ r.2.2.2.2.1 ∧ 0 ≤ r.2.2.2.2.2.1 ∧ r.2.2.2.2.1 ≤ 13 ∧ r.2.2.2.2.2.1 ≤ 2) := by
  unfold fn_X11_passesLonger
  refine zw_zb0 (sf_X6_fill p1 p2 v3_0 f4 f5 f6 f7 f8 f9 (by first | with_reducible assumption | exact ⟨by with_reducible assumption, by with_reducible assumption⟩ | first | lia | grind [zu_at, zu_atL, zvn]) (by first | with_reducible assumption | exact ⟨by with_reducible assumption, by with_reducible assumption⟩ | first | lia | grind [zu_at, zu_atL, zvn])) (fun o_1 ho_1 => ?_)
  obtain ⟨o_1_0, o_1_1, o_1_2⟩ := o_1
  try dsimp only at ho_1
  refine zw_zb0 (sf_X7_reckon v1_0 v3_0 f12 f13 f14 f4 f5 f15 f6 o_1_0 o_1_1 f16 f17 (by first | with_reducible assumption | exact ⟨by with_reducible assumption, by with_reducible assumption⟩ | first | lia | grind [zu_at, zu_atL, zvn]) (by first | with_reducible assumption | exact ⟨by with_reducible assumption, by with_reducible assumption⟩ | first | lia | grind [zu_at, zu_atL, zvn]) (by first | with_reducible assumption | exact ⟨by with_reducible assumption, by with_reducible assumption⟩ | first | lia | grind [zu_at, zu_atL, zvn])) (fun o_5 ho_5 => ?_)
  obtain ⟨o_5_0, o_5_1, o_5_2, o_5_3⟩ := o_5
  try dsimp only at ho_5
  obtain ⟨ho_5_0, ho_5_1, ho_5_2, ho_5_3, ho_5_4, ho_5_5, ho_5_6, ho_5_7, ho_5_8, ho_5_9, ho_5_10, ho_5_11⟩ := ho_5
  refine zw_some ?_
  first | exact True.intro | ((try dsimp only); (repeat' apply And.intro) <;> first | with_reducible assumption | first | lia | grind [zu_at, zu_atL, zvn])
set_option maxHeartbeats 4000000 in
set_option maxRecDepth 100000 in
theorem sf_X11_widest (p1 : Int32) (v1_0 : Int32) (v2_0 : Int32) (f3 : Nat → Int32) (v4_2 : Int32) (v5_1 : Int32) (v5_2 : Int32) (f6 : Nat → Int32) (f7 : Nat → Int32) (f8 : Nat → Int32) (f9 : Nat → Int32) (f10 : Nat → Int64) (f11 : Nat → Int32) (f13 : Nat → Int64) (f14 : Nat → Int64) (f15 : Nat → Int32) (f16 : Nat → Int32) (f18 : Nat → Int64) (f19 : Nat → Int64) (f20 : Nat → Int32) (v21_1 : Int32) (v21_2 : Int32) (f22 : Nat → Int64) (h_v1_0 : 0 ≤ v1_0 ∧ v1_0 ≤ 4) (h_v2_0 : 0 ≤ v2_0 ∧ v2_0 ≤ 14) (h_v4_2 : 0 ≤ v4_2 ∧ v4_2 ≤ 1) (h_f6 : (∀ i : Nat, 0 ≤ f6 i ∧ f6 i ≤ 13)) (h_f20 : (∀ i : Nat, 0 ≤ f20 i ∧ f20 i ≤ 1)) : zw (fn_X11_widest p1 v1_0 v2_0 f3 v4_2 v5_1 v5_2 f6 f7 f8 f9 f10 f11 f13 f14 f15 f16 f18 f19 f20 v21_1 v21_2 f22) (fun r => (∀ i : Nat, 0 ≤ r.2.2.2.2.2.2.1 i ∧ r.2.2.2.2.2.2.1 i ≤ 1) ∧ (-1) ≤ r.1 ∧ r.1 ≤ 10000000) := by
  unfold fn_X11_widest
  refine zw_zb0 (sf_X9_isInput p1 v2_0 f3 (by first | with_reducible assumption | exact ⟨by with_reducible assumption, by with_reducible assumption⟩ | first | lia | grind [zu_at, zu_atL, zvn])) (fun o_1 ho_1 => ?_)
  obtain ⟨ho_1_0, ho_1_1, ho_1_2, ho_1_3, ho_1_4, ho_1_5⟩ := ho_1
  refine zw_if (fun c1 => ?_) (fun c1 => ?_)
  · refine zw_some ?_
    first | exact True.intro | ((try dsimp only); (repeat' apply And.intro) <;> first | with_reducible assumption | first | lia | grind [zu_at, zu_atL, zvn])
  refine zw_zb0 (sf_X11_handPasses v1_0 v2_0 v4_2 v5_1 v5_2 f6 f7 f8 f3 f9 f10 f11 f13 f14 f15 f16 (by first | with_reducible assumption | exact ⟨by with_reducible assumption, by with_reducible assumption⟩ | first | lia | grind [zu_at, zu_atL, zvn]) (by first | with_reducible assumption | exact ⟨by with_reducible assumption, by with_reducible assumption⟩ | first | lia | grind [zu_at, zu_atL, zvn]) (by first | with_reducible assumption | exact ⟨by with_reducible assumption, by with_reducible assumption⟩ | first | lia | grind [zu_at, zu_atL, zvn]) (by first | with_reducible assumption | exact ⟨by with_reducible assumption, by with_reducible assumption⟩ | first | lia | grind [zu_at, zu_atL, zvn])) (fun o_6 ho_6 => ?_)
  obtain ⟨o_6_0, o_6_1, o_6_2, o_6_3⟩ := o_6
  try dsimp only at ho_6
  obtain ⟨ho_6_0, ho_6_1, ho_6_2, ho_6_3, ho_6_4, ho_6_5, ho_6_6⟩ := ho_6
  refine zw_if (fun c2 => ?_) (fun c2 => ?_)
  · refine zw_some ?_
    first | exact True.intro | ((try dsimp only); (repeat' apply And.intro) <;> first | with_reducible assumption | first | lia | grind [zu_at, zu_atL, zvn])
  refine zw_zb0 (sf_X11_passesLonger p1 10000000 v1_0 v2_0 f3 f9 f11 f18 f19 f20 f6 f7 f8 f22 f15 f16 (by first | with_reducible assumption | exact ⟨by with_reducible assumption, by with_reducible assumption⟩ | first | lia | grind [zu_at, zu_atL, zvn]) (by first | with_reducible assumption | exact ⟨by with_reducible assumption, by with_reducible assumption⟩ | first | lia | grind [zu_at, zu_atL, zvn]) (by first | with_reducible assumption | exact ⟨by with_reducible assumption, by with_reducible assumption⟩ | first | lia | grind [zu_at, zu_atL, zvn]) (by first | with_reducible assumption | exact ⟨by with_reducible assumption, by with_reducible assumption⟩ | first | lia | grind [zu_at, zu_atL, zvn])) (fun o_11 ho_11 => ?_)
  obtain ⟨o_11_0, o_11_1, o_11_2, o_11_3, o_11_4, o_11_5, o_11_6⟩ := o_11
  try dsimp only at ho_11
  obtain ⟨ho_11_0, ho_11_1, ho_11_2, ho_11_3, ho_11_4, ho_11_5, ho_11_6⟩ := ho_11
  refine zw_if (fun c3 => ?_) (fun c3 => ?_)
  · refine zw_zl32 (fun s_16 => (∀ i : Nat, 0 ≤ s_16.2.2.2.2.2.2.2.1 i ∧ s_16.2.2.2.2.2.2.2.1 i ≤ 1) ∧ 0 ≤ s_16.1 ∧ s_16.1 ≤ 10000000 ∧ 1 ≤ s_16.2.1 ∧ s_16.2.1 ≤ 10000000 ∧ 0 ≤ s_16.2.2.1 ∧ s_16.2.2.1 ≤ 32 ∧ (-2) ≤ s_16.2.2.2.1 ∧ s_16.2.2.2.1 ≤ 13 ∧ 0 ≤ s_16.2.2.2.2.1 ∧ s_16.2.2.2.2.1 ≤ 2) (fun s_16 => 32 - s_16.2.2.1) (by (try dsimp only); (repeat' apply And.intro) <;> first | with_reducible assumption | first | lia | grind [zu_at, zu_atL, zvn]) (by (try dsimp only); first | lia | grind [zu_at, zu_atL, zvn]) (fun s_16 back_16 Hback_16 hback_16 => ?_)
    obtain ⟨s_16_0, s_16_1, s_16_2, s_16_3, s_16_4, s_16_5, s_16_6, s_16_7, s_16_8⟩ := s_16
    try dsimp only at Hback_16 hback_16
    obtain ⟨Hback_16_0, Hback_16_1, Hback_16_2, Hback_16_3, Hback_16_4, Hback_16_5, Hback_16_6, Hback_16_7, Hback_16_8, Hback_16_9, Hback_16_10⟩ := Hback_16
    refine zw_if (fun c4 => ?_) (fun c4 => ?_)
    · refine zw_some ?_
      first | exact True.intro | ((try dsimp only); (repeat' apply And.intro) <;> first | with_reducible assumption | ((try clear hback_16); first | lia | grind [zu_at, zu_atL, zvn]))
    refine zw_if (fun c5 => ?_) (fun c5 => ?_)
    · refine zw_some ?_
      first | exact True.intro | ((try dsimp only); (repeat' apply And.intro) <;> first | with_reducible assumption | ((try clear hback_16); first | lia | grind [zu_at, zu_atL, zvn]))
    have hmid := zhalf2 (s_16_0 + s_16_1) (by lia) (by lia)
    refine zw_zb0 (sf_X11_passesLonger p1 ((s_16_0 + s_16_1) / 2) v1_0 v2_0 f3 f9 f11 s_16_5 s_16_6 s_16_7 f6 f7 f8 s_16_8 f15 f16 (by first | with_reducible assumption | exact ⟨by with_reducible assumption, by with_reducible assumption⟩ | ((try clear hback_16); first | lia | grind [zu_at, zu_atL, zvn])) (by first | with_reducible assumption | exact ⟨by with_reducible assumption, by with_reducible assumption⟩ | ((try clear hback_16); first | lia | grind [zu_at, zu_atL, zvn])) (by first | with_reducible assumption | exact ⟨by with_reducible assumption, by with_reducible assumption⟩ | ((try clear hback_16); first | lia | grind [zu_at, zu_atL, zvn])) (by first | with_reducible assumption | exact ⟨by with_reducible assumption, by with_reducible assumption⟩ | ((try clear hback_16); first | lia | grind [zu_at, zu_atL, zvn]))) (fun o_19 ho_19 => ?_)
    obtain ⟨o_19_0, o_19_1, o_19_2, o_19_3, o_19_4, o_19_5, o_19_6⟩ := o_19
    try dsimp only at ho_19
    obtain ⟨ho_19_0, ho_19_1, ho_19_2, ho_19_3, ho_19_4, ho_19_5, ho_19_6⟩ := ho_19
    refine zw_if (fun c6 => ?_) (fun c6 => ?_)
    · exact hback_16 _ (by (try dsimp only); (repeat' apply And.intro) <;> first | with_reducible assumption | ((try clear hback_16); first | lia | grind [zu_at, zu_atL, zvn])) (by (try dsimp only); ((try clear hback_16); first | lia | grind [zu_at, zu_atL, zvn])) (by (try dsimp only); ((try clear hback_16); first | lia | grind [zu_at, zu_atL, zvn]))
    exact hback_16 _ (by (try dsimp only); (repeat' apply And.intro) <;> first | with_reducible assumption | ((try clear hback_16); first | lia | grind [zu_at, zu_atL, zvn])) (by (try dsimp only); ((try clear hback_16); first | lia | grind [zu_at, zu_atL, zvn])) (by (try dsimp only); ((try clear hback_16); first | lia | grind [zu_at, zu_atL, zvn]))
  refine zw_some ?_
  first | exact True.intro | ((try dsimp only); (repeat' apply And.intro) <;> first | with_reducible assumption | ((try clear hback_16); first | lia | grind [zu_at, zu_atL, zvn]))
set_option maxHeartbeats 4000000 in
set_option maxRecDepth 100000 in
theorem sf_X11_blame (p1 : Int32) (p2 : Int32) (v1_0 : Int32) (v2_0 : Int32) (f3 : Nat → Int32) (v4_0 : Int32) (v4_2 : Int32) (f5 : Nat → Int32) (f6 : Nat → Int32) (v7_1 : Int32) (v7_2 : Int32) (f8 : Nat → Int32) (f9 : Nat → Int32) (f10 : Nat → Int32) (f11 : Nat → Int32) (f12 : Nat → Int64) (f13 : Nat → Int32) (f15 : Nat → Int64) (f16 : Nat → Int64) (f17 : Nat → Int32) (f18 : Nat → Int32) (v19_1 : Int32) (v19_2 : Int32) (f20 : Nat → Int64) (h_v1_0 : 0 ≤ v1_0 ∧ v1_0 ≤ 4) (h_v2_0 : 0 ≤ v2_0 ∧ v2_0 ≤ 14) (h_v4_0 : 0 ≤ v4_0 ∧ v4_0 ≤ 14) (h_v4_2 : 0 ≤ v4_2 ∧ v4_2 ≤ 1) (h_f5 : (∀ i : Nat, 0 ≤ f5 i ∧ f5 i ≤ 13)) : zw (fn_X11_blame p1 p2 v1_0 v2_0 f3 v4_0 v4_2 f5 f6 v7_1 v7_2 f8 f9 f10 f11 f12 f13 f15 f16 f17 f18 v19_1 v19_2 f20) (fun r => True) := by
  unfold fn_X11_blame
  refine zw_zb0 (sf_X9_isAnswer p1 v2_0 f3 (by first | with_reducible assumption | exact ⟨by with_reducible assumption, by with_reducible assumption⟩ | first | lia | grind [zu_at, zu_atL, zvn])) (fun o_1 ho_1 => ?_)
  obtain ⟨ho_1_0, ho_1_1, ho_1_2, ho_1_3, ho_1_4, ho_1_5⟩ := ho_1
  refine zw_if (fun c1 => ?_) (fun c1 => ?_)
  · refine zw_some ?_
    first | exact True.intro | ((try dsimp only); (repeat' apply And.intro) <;> first | with_reducible assumption | first | lia | grind [zu_at, zu_atL, zvn])
  refine zw_zb0 (sf_X9_isFree p2 v2_0 v4_0 f5 f6 (by first | with_reducible assumption | exact ⟨by with_reducible assumption, by with_reducible assumption⟩ | first | lia | grind [zu_at, zu_atL, zvn]) (by first | with_reducible assumption | exact ⟨by with_reducible assumption, by with_reducible assumption⟩ | first | lia | grind [zu_at, zu_atL, zvn]) (by first | with_reducible assumption | exact ⟨by with_reducible assumption, by with_reducible assumption⟩ | first | lia | grind [zu_at, zu_atL, zvn])) (fun o_6 ho_6 => ?_)
  obtain ⟨ho_6_0, ho_6_1, ho_6_2, ho_6_3, ho_6_4, ho_6_5, ho_6_6⟩ := ho_6
  refine zw_if (fun c2 => ?_) (fun c2 => ?_)
  · refine zw_some ?_
    first | exact True.intro | ((try dsimp only); (repeat' apply And.intro) <;> first | with_reducible assumption | first | lia | grind [zu_at, zu_atL, zvn])
  refine zw_zb0 (sf_X11_handPasses v1_0 v2_0 v4_2 v7_1 v7_2 f5 f8 f9 f10 f11 f12 f13 f15 f16 f17 f3 (by first | with_reducible assumption | exact ⟨by with_reducible assumption, by with_reducible assumption⟩ | first | lia | grind [zu_at, zu_atL, zvn]) (by first | with_reducible assumption | exact ⟨by with_reducible assumption, by with_reducible assumption⟩ | first | lia | grind [zu_at, zu_atL, zvn]) (by first | with_reducible assumption | exact ⟨by with_reducible assumption, by with_reducible assumption⟩ | first | lia | grind [zu_at, zu_atL, zvn]) (by first | with_reducible assumption | exact ⟨by with_reducible assumption, by with_reducible assumption⟩ | first | lia | grind [zu_at, zu_atL, zvn])) (fun o_11 ho_11 => ?_)
  obtain ⟨o_11_0, o_11_1, o_11_2, o_11_3⟩ := o_11
  try dsimp only at ho_11
  obtain ⟨ho_11_0, ho_11_1, ho_11_2, ho_11_3, ho_11_4, ho_11_5, ho_11_6⟩ := ho_11
  refine zw_if (fun c3 => ?_) (fun c3 => ?_)
  · refine zw_some ?_
    first | exact True.intro | ((try dsimp only); (repeat' apply And.intro) <;> first | with_reducible assumption | first | lia | grind [zu_at, zu_atL, zvn])
  refine zw_zb0 (sf_X11_copyChoice f8 f18) (fun o_16 ho_16 => ?_)
  refine zw_zg32 14 (by decide) (by (try dsimp only); first | lia | grind [zu_at, zu_atL, zvn]) ?_
  refine zw_zb0 (sf_X9_finestFormat v1_0 f9 (by first | with_reducible assumption | exact ⟨by with_reducible assumption, by with_reducible assumption⟩ | first | lia | grind [zu_at, zu_atL, zvn])) (fun o_21 ho_21 => ?_)
  obtain ⟨ho_21_0, ho_21_1, ho_21_2⟩ := ho_21
  refine zw_zg32 14 (by decide) (by (try dsimp only); first | lia | grind [zu_at, zu_atL, zvn]) ?_
  refine zw_zb0 (sf_X7_reckon v1_0 v2_0 f5 (upd o_16 (f5 p2.toNatClampNeg).toNatClampNeg o_21) f9 f10 f11 f20 f13 f15 f16 f17 f3 (by first | with_reducible assumption | exact ⟨by with_reducible assumption, by with_reducible assumption⟩ | first | lia | grind [zu_at, zu_atL, zvn]) (by first | with_reducible assumption | exact ⟨by with_reducible assumption, by with_reducible assumption⟩ | first | lia | grind [zu_at, zu_atL, zvn]) (by first | with_reducible assumption | exact ⟨by with_reducible assumption, by with_reducible assumption⟩ | first | lia | grind [zu_at, zu_atL, zvn])) (fun o_26 ho_26 => ?_)
  obtain ⟨o_26_0, o_26_1, o_26_2, o_26_3⟩ := o_26
  try dsimp only at ho_26
  obtain ⟨ho_26_0, ho_26_1, ho_26_2, ho_26_3, ho_26_4, ho_26_5, ho_26_6, ho_26_7, ho_26_8, ho_26_9, ho_26_10, ho_26_11⟩ := ho_26
  refine zw_if (fun c4 => ?_) (fun c4 => ?_)
  · refine zw_some ?_
    first | exact True.intro | ((try dsimp only); (repeat' apply And.intro) <;> first | with_reducible assumption | first | lia | grind [zu_at, zu_atL, zvn])
  refine zw_zg32 14 (by decide) (by (try dsimp only); first | lia | grind [zu_at, zu_atL, zvn]) ?_
  refine zw_some ?_
  first | exact True.intro | ((try dsimp only); (repeat' apply And.intro) <;> first | with_reducible assumption | first | lia | grind [zu_at, zu_atL, zvn])
set_option maxHeartbeats 4000000 in
set_option maxRecDepth 100000 in
theorem sf_X11_cheapest (p1 : Int32) (v1_2 : Int32) (v1_3 : Int32) (v1_6 : Int32) (v1_7 : Int32) (v1_8 : Int32) (v2_0 : Int32) (v2_5 : Int32) (v3_0 : Int32) (v4_0 : Int32) (v4_1 : Int32) (v4_2 : Int32) (f5 : Nat → Int32) (n6 : Nat) (f6 : Nat → Int32) (n7 : Nat) (f7 : Nat → Int32) (n8 : Nat) (f8 : Nat → Int32) (n9 : Nat) (f9 : Nat → Int32) (n10 : Nat) (f10 : Nat → Int32) (f11 : Nat → Int32) (f12 : Nat → Int32) (v13_1 : Int32) (v13_2 : Int32) (f14 : Nat → Int32) (f15 : Nat → Int32) (f16 : Nat → Int32) (f17 : Nat → Int32) (f18 : Nat → Int64) (f19 : Nat → Int32) (f21 : Nat → Int64) (f22 : Nat → Int64) (f23 : Nat → Int32) (f24 : Nat → Int32) (f25 : Nat → Int32) (h_v1_2 : 0 ≤ v1_2 ∧ v1_2 ≤ 1) (h_v1_3 : 0 ≤ v1_3 ∧ v1_3 ≤ 14) (h_v1_6 : 0 ≤ v1_6 ∧ v1_6 ≤ 1024) (h_v2_0 : 0 ≤ v2_0 ∧ v2_0 ≤ 4) (h_v3_0 : 0 ≤ v3_0 ∧ v3_0 ≤ 14) (h_v4_0 : 0 ≤ v4_0 ∧ v4_0 ≤ 14) (h_v4_1 : 0 ≤ v4_1 ∧ v4_1 ≤ 14) (h_v4_2 : 0 ≤ v4_2 ∧ v4_2 ≤ 1) (h_n6 : n6 ≤ 1024) (hN_n6 : 0 ≤ Int32.ofNat n6 ∧ Int32.ofNat n6 ≤ 1024) (h_n7 : n7 ≤ 14336) (hN_n7 : 0 ≤ Int32.ofNat n7 ∧ Int32.ofNat n7 ≤ 14336) (h_n8 : n8 ≤ 1024) (hN_n8 : 0 ≤ Int32.ofNat n8 ∧ Int32.ofNat n8 ≤ 1024) (h_n9 : n9 ≤ 1024) (hN_n9 : 0 ≤ Int32.ofNat n9 ∧ Int32.ofNat n9 ≤ 1024) (h_n10 : n10 ≤ 1024) (hN_n10 : 0 ≤ Int32.ofNat n10 ∧ Int32.ofNat n10 ≤ 1024) (h_f14 : (∀ i : Nat, 0 ≤ f14 i ∧ f14 i ≤ 13)) (hr_0 : v1_6 ≤ (Int32.ofNat n6)) (hr_1 : (Int32.ofNat n6) ≤ (Int32.ofNat n9)) (hr_2 : (Int32.ofNat n6) ≤ (Int32.ofNat n8)) (hr_3 : (Int32.ofNat n6) ≤ (Int32.ofNat n10)) (hr_4 : (Int32.ofNat n9) ≤ (Int32.ofNat n6)) (hr_5 : (Int32.ofNat n8) ≤ (Int32.ofNat n6)) (hr_6 : (Int32.ofNat n10) ≤ (Int32.ofNat n6)) : zw (fn_X11_cheapest p1 v1_2 v1_3 v1_6 v1_7 v1_8 v2_0 v2_5 v3_0 v4_0 v4_1 v4_2 f5 n6 f6 n7 f7 n8 f8 n9 f9 n10 f10 f11 f12 v13_1 v13_2 f14 f15 f16 f17 f18 f19 f21 f22 f23 f24 f25) (fun r => 0 ≤ r.2.1 ∧ r.2.1 ≤ 1 ∧ 0 ≤ r.2.2.1 ∧ r.2.2.1 ≤ 14 ∧ 0 ≤ r.2.2.2.1 ∧ r.2.2.2.1 ≤ 1024 ∧ r.2.2.2.2.2.2.2.1 ≤ 1024 ∧ 0 ≤ Int32.ofNat r.2.2.2.2.2.2.2.1 ∧ Int32.ofNat r.2.2.2.2.2.2.2.1 ≤ 1024 ∧ r.2.2.2.2.2.2.2.2.2.1 ≤ 14336 ∧ 0 ≤ Int32.ofNat r.2.2.2.2.2.2.2.2.2.1 ∧ Int32.ofNat r.2.2.2.2.2.2.2.2.2.1 ≤ 14336 ∧ r.2.2.2.2.2.2.2.2.2.2.2.1 ≤ 1024 ∧ 0 ≤ Int32.ofNat r.2.2.2.2.2.2.2.2.2.2.2.1 ∧ Int32.ofNat r.2.2.2.2.2.2.2.2.2.2.2.1 ≤ 1024 ∧ r.2.2.2.2.2.2.2.2.2.2.2.2.2.1 ≤ 1024 ∧ 0 ≤ Int32.ofNat r.2.2.2.2.2.2.2.2.2.2.2.2.2.1 ∧ Int32.ofNat r.2.2.2.2.2.2.2.2.2.2.2.2.2.1 ≤ 1024 ∧ r.2.2.2.2.2.2.2.2.2.2.2.2.2.2.2.1 ≤ 1024 ∧ 0 ≤ Int32.ofNat r.2.2.2.2.2.2.2.2.2.2.2.2.2.2.2.1 ∧ Int32.ofNat r.2.2.2.2.2.2.2.2.2.2.2.2.2.2.2.1 ≤ 1024 ∧ r.2.2.2.1 ≤ (Int32.ofNat r.2.2.2.2.2.2.2.1) ∧ (Int32.ofNat r.2.2.2.2.2.2.2.1) ≤ (Int32.ofNat r.2.2.2.2.2.2.2.2.2.2.2.2.2.1) ∧ (Int32.ofNat r.2.2.2.2.2.2.2.1) ≤ (Int32.ofNat r.2.2.2.2.2.2.2.2.2.2.2.1) ∧ (Int32.ofNat r.2.2.2.2.2.2.2.1) ≤ (Int32.ofNat r.2.2.2.2.2.2.2.2.2.2.2.2.2.2.2.1) ∧ (Int32.ofNat r.2.2.2.2.2.2.2.2.2.2.2.2.2.1) ≤ (Int32.ofNat r.2.2.2.2.2.2.2.1) ∧ (Int32.ofNat r.2.2.2.2.2.2.2.2.2.2.2.1) ≤ (Int32.ofNat r.2.2.2.2.2.2.2.1) ∧ (Int32.ofNat r.2.2.2.2.2.2.2.2.2.2.2.2.2.2.2.1) ≤ (Int32.ofNat r.2.2.2.2.2.2.2.1) ∧ (Int32.ofNat n6) ≤ (Int32.ofNat r.2.2.2.2.2.2.2.1)) := by
  unfold fn_X11_cheapest
  refine zw_zb0 (sf_X1_search v1_2 v1_3 v1_6 v1_7 v1_8 v2_0 v2_5 v3_0 v4_0 v4_1 v4_2 f5 n6 f6 n7 f7 n8 f8 n9 f9 n10 f10 f11 f12 v13_1 v13_2 f14 f15 f16 f17 f18 f19 f21 f22 f23 f24 (by first | with_reducible assumption | exact ⟨by with_reducible assumption, by with_reducible assumption⟩ | first | lia | grind [zu_at, zu_atL, zvn]) (by first | with_reducible assumption | exact ⟨by with_reducible assumption, by with_reducible assumption⟩ | first | lia | grind [zu_at, zu_atL, zvn]) (by first | with_reducible assumption | exact ⟨by with_reducible assumption, by with_reducible assumption⟩ | first | lia | grind [zu_at, zu_atL, zvn]) (by first | with_reducible assumption | exact ⟨by with_reducible assumption, by with_reducible assumption⟩ | first | lia | grind [zu_at, zu_atL, zvn]) (by first | with_reducible assumption | exact ⟨by with_reducible assumption, by with_reducible assumption⟩ | first | lia | grind [zu_at, zu_atL, zvn]) (by first | with_reducible assumption | exact ⟨by with_reducible assumption, by with_reducible assumption⟩ | first | lia | grind [zu_at, zu_atL, zvn]) (by first | with_reducible assumption | exact ⟨by with_reducible assumption, by with_reducible assumption⟩ | first | lia | grind [zu_at, zu_atL, zvn]) (by first | with_reducible assumption | exact ⟨by with_reducible assumption, by with_reducible assumption⟩ | first | lia | grind [zu_at, zu_atL, zvn]) (by first | with_reducible assumption | exact ⟨by with_reducible assumption, by with_reducible assumption⟩ | first | lia | grind [zu_at, zu_atL, zvn]) (by first | with_reducible assumption | exact ⟨by with_reducible assumption, by with_reducible assumption⟩ | first | lia | grind [zu_at, zu_atL, zvn]) (by first | with_reducible assumption | exact ⟨by with_reducible assumption, by with_reducible assumption⟩ | first | lia | grind [zu_at, zu_atL, zvn]) (by first | with_reducible assumption | exact ⟨by with_reducible assumption, by with_reducible assumption⟩ | first | lia | grind [zu_at, zu_atL, zvn]) (by first | with_reducible assumption | exact ⟨by with_reducible assumption, by with_reducible assumption⟩ | first | lia | grind [zu_at, zu_atL, zvn]) (by first | with_reducible assumption | exact ⟨by with_reducible assumption, by with_reducible assumption⟩ | first | lia | grind [zu_at, zu_atL, zvn]) (by first | with_reducible assumption | exact ⟨by with_reducible assumption, by with_reducible assumption⟩ | first | lia | grind [zu_at, zu_atL, zvn]) (by first | with_reducible assumption | exact ⟨by with_reducible assumption, by with_reducible assumption⟩ | first | lia | grind [zu_at, zu_atL, zvn]) (by first | with_reducible assumption | exact ⟨by with_reducible assumption, by with_reducible assumption⟩ | first | lia | grind [zu_at, zu_atL, zvn]) (by first | with_reducible assumption | exact ⟨by with_reducible assumption, by with_reducible assumption⟩ | first | lia | grind [zu_at, zu_atL, zvn]) (by first | with_reducible assumption | exact ⟨by with_reducible assumption, by with_reducible assumption⟩ | first | lia | grind [zu_at, zu_atL, zvn]) (by first | with_reducible assumption | exact ⟨by with_reducible assumption, by with_reducible assumption⟩ | first | lia | grind [zu_at, zu_atL, zvn]) (by first | with_reducible assumption | exact ⟨by with_reducible assumption, by with_reducible assumption⟩ | first | lia | grind [zu_at, zu_atL, zvn]) (by first | with_reducible assumption | exact ⟨by with_reducible assumption, by with_reducible assumption⟩ | first | lia | grind [zu_at, zu_atL, zvn]) (by first | with_reducible assumption | exact ⟨by with_reducible assumption, by with_reducible assumption⟩ | first | lia | grind [zu_at, zu_atL, zvn]) (by first | with_reducible assumption | exact ⟨by with_reducible assumption, by with_reducible assumption⟩ | first | lia | grind [zu_at, zu_atL, zvn]) (by first | with_reducible assumption | exact ⟨by with_reducible assumption, by with_reducible assumption⟩ | first | lia | grind [zu_at, zu_atL, zvn]) (by first | with_reducible assumption | exact ⟨by with_reducible assumption, by with_reducible assumption⟩ | first | lia | grind [zu_at, zu_atL, zvn])) (fun o_1 ho_1 => ?_)
  obtain ⟨o_1_0, o_1_1, o_1_2, o_1_3, o_1_4, o_1_5, o_1_6, o_1_7, o_1_8, o_1_9, o_1_10, o_1_11, o_1_12, o_1_13, o_1_14, o_1_15, o_1_16, o_1_17, o_1_18, o_1_19⟩ := o_1
  try dsimp only at ho_1
  obtain ⟨ho_1_0, ho_1_1, ho_1_2, ho_1_3, ho_1_4, ho_1_5, ho_1_6, ho_1_7, ho_1_8, ho_1_9, ho_1_10, ho_1_11, ho_1_12, ho_1_13, ho_1_14, ho_1_15, ho_1_16, ho_1_17, ho_1_18, ho_1_19, ho_1_20, ho_1_21, ho_1_22, ho_1_23, ho_1_24, ho_1_25, ho_1_26, ho_1_27, ho_1_28, ho_1_29, ho_1_30⟩ := ho_1
  refine zw_if (fun c1 => ?_) (fun c1 => ?_)
  · refine zw_some ?_
    first | exact True.intro | ((try dsimp only); (repeat' apply And.intro) <;> first | with_reducible assumption | first | lia | grind [zu_at, zu_atL, zvn])
  refine zw_if (fun c2 => ?_) (fun c2 => ?_)
  · refine zw_some ?_
    first | exact True.intro | ((try dsimp only); (repeat' apply And.intro) <;> first | with_reducible assumption | first | lia | grind [zu_at, zu_atL, zvn])
  refine zw_if (fun c3 => ?_) (fun c3 => ?_)
  · refine zw_some ?_
    first | exact True.intro | ((try dsimp only); (repeat' apply And.intro) <;> first | with_reducible assumption | first | lia | grind [zu_at, zu_atL, zvn])
  refine zw_zb0 (sf_X1_unfold o_1_4 v2_0 v4_0 f11 f25 (by first | with_reducible assumption | exact ⟨by with_reducible assumption, by with_reducible assumption⟩ | first | lia | grind [zu_at, zu_atL, zvn]) (by first | with_reducible assumption | exact ⟨by with_reducible assumption, by with_reducible assumption⟩ | first | lia | grind [zu_at, zu_atL, zvn])) (fun o_8 ho_8 => ?_)
  refine zw_zb0 (sf_X9_hasNumber p1 v3_0 (by first | with_reducible assumption | exact ⟨by with_reducible assumption, by with_reducible assumption⟩ | first | lia | grind [zu_at, zu_atL, zvn])) (fun o_12 ho_12 => ?_)
  obtain ⟨ho_12_0, ho_12_1, ho_12_2, ho_12_3, ho_12_4, ho_12_5⟩ := ho_12
  refine zw_if (fun c4 => ?_) (fun c4 => ?_)
  · refine zw_some ?_
    first | exact True.intro | ((try dsimp only); (repeat' apply And.intro) <;> first | with_reducible assumption | first | lia | grind [zu_at, zu_atL, zvn])
  refine zw_zb0 (sf_X9_formatOf p1 v3_0 f14 o_8 (by first | with_reducible assumption | exact ⟨by with_reducible assumption, by with_reducible assumption⟩ | first | lia | grind [zu_at, zu_atL, zvn]) (by first | with_reducible assumption | exact ⟨by with_reducible assumption, by with_reducible assumption⟩ | first | lia | grind [zu_at, zu_atL, zvn])) (fun o_17 ho_17 => ?_)
  refine zw_some ?_
  first | exact True.intro | ((try dsimp only); (repeat' apply And.intro) <;> first | with_reducible assumption | first | lia | grind [zu_at, zu_atL, zvn])
set_option maxHeartbeats 4000000 in
set_option maxRecDepth 100000 in
theorem sf_X11_passing (v1_2 : Int32) (v1_3 : Int32) (v1_6 : Int32) (v1_7 : Int32) (v1_8 : Int32) (v2_0 : Int32) (v2_5 : Int32) (v3_0 : Int32) (v4_0 : Int32) (v4_1 : Int32) (v4_2 : Int32) (f5 : Nat → Int32) (n6 : Nat) (f6 : Nat → Int32) (n7 : Nat) (f7 : Nat → Int32) (n8 : Nat) (f8 : Nat → Int32) (n9 : Nat) (f9 : Nat → Int32) (n10 : Nat) (f10 : Nat → Int32) (f11 : Nat → Int32) (f12 : Nat → Int32) (v13_1 : Int32) (v13_2 : Int32) (f14 : Nat → Int32) (f15 : Nat → Int32) (f16 : Nat → Int32) (f17 : Nat → Int32) (f18 : Nat → Int64) (f19 : Nat → Int32) (f21 : Nat → Int64) (f22 : Nat → Int64) (f23 : Nat → Int32) (f24 : Nat → Int32) (h_v1_2 : 0 ≤ v1_2 ∧ v1_2 ≤ 1) (h_v1_3 : 0 ≤ v1_3 ∧ v1_3 ≤ 14) (h_v1_6 : 0 ≤ v1_6 ∧ v1_6 ≤ 1024) (h_v2_0 : 0 ≤ v2_0 ∧ v2_0 ≤ 4) (h_v3_0 : 0 ≤ v3_0 ∧ v3_0 ≤ 14) (h_v4_0 : 0 ≤ v4_0 ∧ v4_0 ≤ 14) (h_v4_1 : 0 ≤ v4_1 ∧ v4_1 ≤ 14) (h_v4_2 : 0 ≤ v4_2 ∧ v4_2 ≤ 1) (h_n6 : n6 ≤ 1024) (hN_n6 : 0 ≤ Int32.ofNat n6 ∧ Int32.ofNat n6 ≤ 1024) (h_n7 : n7 ≤ 14336) (hN_n7 : 0 ≤ Int32.ofNat n7 ∧ Int32.ofNat n7 ≤ 14336) (h_n8 : n8 ≤ 1024) (hN_n8 : 0 ≤ Int32.ofNat n8 ∧ Int32.ofNat n8 ≤ 1024) (h_n9 : n9 ≤ 1024) (hN_n9 : 0 ≤ Int32.ofNat n9 ∧ Int32.ofNat n9 ≤ 1024) (h_n10 : n10 ≤ 1024) (hN_n10 : 0 ≤ Int32.ofNat n10 ∧ Int32.ofNat n10 ≤ 1024) (h_f14 : (∀ i : Nat, 0 ≤ f14 i ∧ f14 i ≤ 13)) (hr_0 : v1_6 ≤ (Int32.ofNat n6)) (hr_1 : (Int32.ofNat n6) ≤ (Int32.ofNat n9)) (hr_2 : (Int32.ofNat n6) ≤ (Int32.ofNat n8)) (hr_3 : (Int32.ofNat n6) ≤ (Int32.ofNat n10)) (hr_4 : (Int32.ofNat n9) ≤ (Int32.ofNat n6)) (hr_5 : (Int32.ofNat n8) ≤ (Int32.ofNat n6)) (hr_6 : (Int32.ofNat n10) ≤ (Int32.ofNat n6)) : zw (fn_X11_passing v1_2 v1_3 v1_6 v1_7 v1_8 v2_0 v2_5 v3_0 v4_0 v4_1 v4_2 f5 n6 f6 n7 f7 n8 f8 n9 f9 n10 f10 f11 f12 v13_1 v13_2 f14 f15 f16 f17 f18 f19 f21 f22 f23 f24) (fun r => 0 ≤ r.2.1 ∧ r.2.1 ≤ 1 ∧ 0 ≤ r.2.2.1 ∧ r.2.2.1 ≤ 14 ∧ 0 ≤ r.2.2.2.1 ∧ r.2.2.2.1 ≤ 1024 ∧ r.2.2.2.2.2.2.2.1 ≤ 1024 ∧ 0 ≤ Int32.ofNat r.2.2.2.2.2.2.2.1 ∧ Int32.ofNat r.2.2.2.2.2.2.2.1 ≤ 1024 ∧ r.2.2.2.2.2.2.2.2.2.1 ≤ 14336 ∧ 0 ≤ Int32.ofNat r.2.2.2.2.2.2.2.2.2.1 ∧ Int32.ofNat r.2.2.2.2.2.2.2.2.2.1 ≤ 14336 ∧ r.2.2.2.2.2.2.2.2.2.2.2.1 ≤ 1024 ∧ 0 ≤ Int32.ofNat r.2.2.2.2.2.2.2.2.2.2.2.1 ∧ Int32.ofNat r.2.2.2.2.2.2.2.2.2.2.2.1 ≤ 1024 ∧ r.2.2.2.2.2.2.2.2.2.2.2.2.2.1 ≤ 1024 ∧ 0 ≤ Int32.ofNat r.2.2.2.2.2.2.2.2.2.2.2.2.2.1 ∧ Int32.ofNat r.2.2.2.2.2.2.2.2.2.2.2.2.2.1 ≤ 1024 ∧ r.2.2.2.2.2.2.2.2.2.2.2.2.2.2.2.1 ≤ 1024 ∧ 0 ≤ Int32.ofNat r.2.2.2.2.2.2.2.2.2.2.2.2.2.2.2.1 ∧ Int32.ofNat r.2.2.2.2.2.2.2.2.2.2.2.2.2.2.2.1 ≤ 1024 ∧ (-1) ≤ r.1 ∧ r.1 ≤ 1024 ∧ r.2.2.2.1 ≤ (Int32.ofNat r.2.2.2.2.2.2.2.1) ∧ (Int32.ofNat r.2.2.2.2.2.2.2.1) ≤ (Int32.ofNat r.2.2.2.2.2.2.2.2.2.2.2.2.2.1) ∧ (Int32.ofNat r.2.2.2.2.2.2.2.1) ≤ (Int32.ofNat r.2.2.2.2.2.2.2.2.2.2.2.1) ∧ (Int32.ofNat r.2.2.2.2.2.2.2.1) ≤ (Int32.ofNat r.2.2.2.2.2.2.2.2.2.2.2.2.2.2.2.1) ∧ (Int32.ofNat r.2.2.2.2.2.2.2.2.2.2.2.2.2.1) ≤ (Int32.ofNat r.2.2.2.2.2.2.2.1) ∧ (Int32.ofNat r.2.2.2.2.2.2.2.2.2.2.2.1) ≤ (Int32.ofNat r.2.2.2.2.2.2.2.1) ∧ (Int32.ofNat r.2.2.2.2.2.2.2.2.2.2.2.2.2.2.2.1) ≤ (Int32.ofNat r.2.2.2.2.2.2.2.1) ∧ (Int32.ofNat n6) ≤ (Int32.ofNat r.2.2.2.2.2.2.2.1)) := by
  unfold fn_X11_passing
  refine zw_zb0 (sf_X1_search v1_2 v1_3 v1_6 v1_7 v1_8 v2_0 v2_5 v3_0 v4_0 v4_1 v4_2 f5 n6 f6 n7 f7 n8 f8 n9 f9 n10 f10 f11 f12 v13_1 v13_2 f14 f15 f16 f17 f18 f19 f21 f22 f23 f24 (by first | with_reducible assumption | exact ⟨by with_reducible assumption, by with_reducible assumption⟩ | first | lia | grind [zu_at, zu_atL, zvn]) (by first | with_reducible assumption | exact ⟨by with_reducible assumption, by with_reducible assumption⟩ | first | lia | grind [zu_at, zu_atL, zvn]) (by first | with_reducible assumption | exact ⟨by with_reducible assumption, by with_reducible assumption⟩ | first | lia | grind [zu_at, zu_atL, zvn]) (by first | with_reducible assumption | exact ⟨by with_reducible assumption, by with_reducible assumption⟩ | first | lia | grind [zu_at, zu_atL, zvn]) (by first | with_reducible assumption | exact ⟨by with_reducible assumption, by with_reducible assumption⟩ | first | lia | grind [zu_at, zu_atL, zvn]) (by first | with_reducible assumption | exact ⟨by with_reducible assumption, by with_reducible assumption⟩ | first | lia | grind [zu_at, zu_atL, zvn]) (by first | with_reducible assumption | exact ⟨by with_reducible assumption, by with_reducible assumption⟩ | first | lia | grind [zu_at, zu_atL, zvn]) (by first | with_reducible assumption | exact ⟨by with_reducible assumption, by with_reducible assumption⟩ | first | lia | grind [zu_at, zu_atL, zvn]) (by first | with_reducible assumption | exact ⟨by with_reducible assumption, by with_reducible assumption⟩ | first | lia | grind [zu_at, zu_atL, zvn]) (by first | with_reducible assumption | exact ⟨by with_reducible assumption, by with_reducible assumption⟩ | first | lia | grind [zu_at, zu_atL, zvn]) (by first | with_reducible assumption | exact ⟨by with_reducible assumption, by with_reducible assumption⟩ | first | lia | grind [zu_at, zu_atL, zvn]) (by first | with_reducible assumption | exact ⟨by with_reducible assumption, by with_reducible assumption⟩ | first | lia | grind [zu_at, zu_atL, zvn]) (by first | with_reducible assumption | exact ⟨by with_reducible assumption, by with_reducible assumption⟩ | first | lia | grind [zu_at, zu_atL, zvn]) (by first | with_reducible assumption | exact ⟨by with_reducible assumption, by with_reducible assumption⟩ | first | lia | grind [zu_at, zu_atL, zvn]) (by first | with_reducible assumption | exact ⟨by with_reducible assumption, by with_reducible assumption⟩ | first | lia | grind [zu_at, zu_atL, zvn]) (by first | with_reducible assumption | exact ⟨by with_reducible assumption, by with_reducible assumption⟩ | first | lia | grind [zu_at, zu_atL, zvn]) (by first | with_reducible assumption | exact ⟨by with_reducible assumption, by with_reducible assumption⟩ | first | lia | grind [zu_at, zu_atL, zvn]) (by first | with_reducible assumption | exact ⟨by with_reducible assumption, by with_reducible assumption⟩ | first | lia | grind [zu_at, zu_atL, zvn]) (by first | with_reducible assumption | exact ⟨by with_reducible assumption, by with_reducible assumption⟩ | first | lia | grind [zu_at, zu_atL, zvn]) (by first | with_reducible assumption | exact ⟨by with_reducible assumption, by with_reducible assumption⟩ | first | lia | grind [zu_at, zu_atL, zvn]) (by first | with_reducible assumption | exact ⟨by with_reducible assumption, by with_reducible assumption⟩ | first | lia | grind [zu_at, zu_atL, zvn]) (by first | with_reducible assumption | exact ⟨by with_reducible assumption, by with_reducible assumption⟩ | first | lia | grind [zu_at, zu_atL, zvn]) (by first | with_reducible assumption | exact ⟨by with_reducible assumption, by with_reducible assumption⟩ | first | lia | grind [zu_at, zu_atL, zvn]) (by first | with_reducible assumption | exact ⟨by with_reducible assumption, by with_reducible assumption⟩ | first | lia | grind [zu_at, zu_atL, zvn]) (by first | with_reducible assumption | exact ⟨by with_reducible assumption, by with_reducible assumption⟩ | first | lia | grind [zu_at, zu_atL, zvn]) (by first | with_reducible assumption | exact ⟨by with_reducible assumption, by with_reducible assumption⟩ | first | lia | grind [zu_at, zu_atL, zvn])) (fun o_1 ho_1 => ?_)
  obtain ⟨o_1_0, o_1_1, o_1_2, o_1_3, o_1_4, o_1_5, o_1_6, o_1_7, o_1_8, o_1_9, o_1_10, o_1_11, o_1_12, o_1_13, o_1_14, o_1_15, o_1_16, o_1_17, o_1_18, o_1_19⟩ := o_1
  try dsimp only at ho_1
  obtain ⟨ho_1_0, ho_1_1, ho_1_2, ho_1_3, ho_1_4, ho_1_5, ho_1_6, ho_1_7, ho_1_8, ho_1_9, ho_1_10, ho_1_11, ho_1_12, ho_1_13, ho_1_14, ho_1_15, ho_1_16, ho_1_17, ho_1_18, ho_1_19, ho_1_20, ho_1_21, ho_1_22, ho_1_23, ho_1_24, ho_1_25, ho_1_26, ho_1_27, ho_1_28, ho_1_29, ho_1_30⟩ := ho_1
  refine zw_if (fun c1 => ?_) (fun c1 => ?_)
  · refine zw_some ?_
    first | exact True.intro | ((try dsimp only); (repeat' apply And.intro) <;> first | with_reducible assumption | first | lia | grind [zu_at, zu_atL, zvn])
  refine zw_some ?_
  first | exact True.intro | ((try dsimp only); (repeat' apply And.intro) <;> first | with_reducible assumption | first | lia | grind [zu_at, zu_atL, zvn])
set_option maxHeartbeats 4000000 in
set_option maxRecDepth 100000 in
theorem sf_X11_halves (p1 : Int32) (v1_2 : Int32) (v1_3 : Int32) (v1_8 : Int32) (v1_10 : Int32) (v1_11 : Int32) (v2_0 : Int32) (v2_5 : Int32) (v3_0 : Int32) (v4_0 : Int32) (v4_2 : Int32) (f5 : Nat → Int32) (f6 : Nat → Int32) (f7 : Nat → Int32) (f8 : Nat → Int32) (v9_1 : Int32) (v9_2 : Int32) (f10 : Nat → Int32) (f11 : Nat → Int32) (f12 : Nat → Int32) (f13 : Nat → Int64) (f14 : Nat → Int32) (f16 : Nat → Int64) (f17 : Nat → Int64) (f18 : Nat → Int32) (f19 : Nat → Int32) (f20 : Nat → Int32) (f21 : Nat → Int32) (f22 : Nat → Int32) (f23 : Nat → Int32) (h_v1_2 : 0 ≤ v1_2 ∧ v1_2 ≤ 1) (h_v1_3 : 0 ≤ v1_3 ∧ v1_3 ≤ 1) (h_v1_8 : 0 ≤ v1_8 ∧ v1_8 ≤ 28) (h_v2_0 : 0 ≤ v2_0 ∧ v2_0 ≤ 4) (h_v3_0 : 0 ≤ v3_0 ∧ v3_0 ≤ 14) (h_v4_0 : 0 ≤ v4_0 ∧ v4_0 ≤ 14) (h_v4_2 : 0 ≤ v4_2 ∧ v4_2 ≤ 1) (h_f8 : (∀ i : Nat, 0 ≤ f8 i ∧ f8 i ≤ 1)) (h_f10 : (∀ i : Nat, 0 ≤ f10 i ∧ f10 i ≤ 13)) (h_f21 : (∀ i : Nat, 0 ≤ f21 i ∧ f21 i ≤ 13)) (h_f22 : (∀ i : Nat, 0 ≤ f22 i ∧ f22 i ≤ 14)) (h_f23 : (∀ i : Nat, 0 ≤ f23 i ∧ f23 i ≤ 14)) : zw (fn_X11_halves p1 v1_2 v1_3 v1_8 v1_10 v1_11 v2_0 v2_5 v3_0 v4_0 v4_2 f5 f6 f7 f8 v9_1 v9_2 f10 f11 f12 f13 f14 f16 f17 f18 f19 f20 f21 f22 f23) (fun r => 0 ≤ r.2.2.2.1 ∧ r.2.2.2.1 ≤ 1 ∧ 0 ≤ r.2.2.2.2.1 ∧ r.2.2.2.2.1 ≤ 1 ∧ 0 ≤ r.2.2.2.2.2.1 ∧ r.2.2.2.2.2.1 ≤ 28 ∧ (∀ i : Nat, 0 ≤ r.2.2.2.2.2.2.2.1 i ∧ r.2.2.2.2.2.2.2.1 i ≤ 1) ∧ (∀ i : Nat, 0 ≤ r.2.2.2.2.2.2.2.2.2.2.2.1 i ∧ r.2.2.2.2.2.2.2.2.2.2.2.1 i ≤ 13) ∧ (∀ i : Nat, 0 ≤ r.2.2.2.2.2.2.2.2.2.2.2.2.1 i ∧ r.2.2.2.2.2.2.2.2.2.2.2.2.1 i ≤ 14) ∧ (∀ i : Nat, 0 ≤ r.2.2.2.2.2.2.2.2.2.2.2.2.2 i ∧ r.2.2.2.2.2.2.2.2.2.2.2.2.2 i ≤ 14)) := by
  unfold fn_X11_halves
  refine zw_zb0 (sf_X3_goByHalves v1_2 v1_3 v1_8 v1_10 v1_11 v2_0 v2_5 v3_0 v4_0 v4_2 f5 f6 f7 f8 v9_1 v9_2 f10 f11 f12 f13 f14 f16 f17 f18 f19 f20 f21 f22 f23 (by first | with_reducible assumption | exact ⟨by with_reducible assumption, by with_reducible assumption⟩ | first | lia | grind [zu_at, zu_atL, zvn]) (by first | with_reducible assumption | exact ⟨by with_reducible assumption, by with_reducible assumption⟩ | first | lia | grind [zu_at, zu_atL, zvn]) (by first | with_reducible assumption | exact ⟨by with_reducible assumption, by with_reducible assumption⟩ | first | lia | grind [zu_at, zu_atL, zvn]) (by first | with_reducible assumption | exact ⟨by with_reducible assumption, by with_reducible assumption⟩ | first | lia | grind [zu_at, zu_atL, zvn]) (by first | with_reducible assumption | exact ⟨by with_reducible assumption, by with_reducible assumption⟩ | first | lia | grind [zu_at, zu_atL, zvn]) (by first | with_reducible assumption | exact ⟨by with_reducible assumption, by with_reducible assumption⟩ | first | lia | grind [zu_at, zu_atL, zvn]) (by first | with_reducible assumption | exact ⟨by with_reducible assumption, by with_reducible assumption⟩ | first | lia | grind [zu_at, zu_atL, zvn]) (by first | with_reducible assumption | exact ⟨by with_reducible assumption, by with_reducible assumption⟩ | first | lia | grind [zu_at, zu_atL, zvn]) (by first | with_reducible assumption | exact ⟨by with_reducible assumption, by with_reducible assumption⟩ | first | lia | grind [zu_at, zu_atL, zvn]) (by first | with_reducible assumption | exact ⟨by with_reducible assumption, by with_reducible assumption⟩ | first | lia | grind [zu_at, zu_atL, zvn]) (by first | with_reducible assumption | exact ⟨by with_reducible assumption, by with_reducible assumption⟩ | first | lia | grind [zu_at, zu_atL, zvn]) (by first | with_reducible assumption | exact ⟨by with_reducible assumption, by with_reducible assumption⟩ | first | lia | grind [zu_at, zu_atL, zvn])) (fun o_1 ho_1 => ?_)
  obtain ⟨o_1_0, o_1_1, o_1_2, o_1_3, o_1_4, o_1_5, o_1_6, o_1_7, o_1_8, o_1_9, o_1_10, o_1_11, o_1_12, o_1_13⟩ := o_1
  try dsimp only at ho_1
  obtain ⟨ho_1_0, ho_1_1, ho_1_2, ho_1_3, ho_1_4, ho_1_5, ho_1_6, ho_1_7, ho_1_8, ho_1_9, ho_1_10, ho_1_11, ho_1_12, ho_1_13, ho_1_14, ho_1_15, ho_1_16, ho_1_17, ho_1_18, ho_1_19⟩ := ho_1
  refine zw_if (fun c1 => ?_) (fun c1 => ?_)
  · refine zw_some ?_
    first | exact True.intro | ((try dsimp only); (repeat' apply And.intro) <;> first | with_reducible assumption | first | lia | grind [zu_at, zu_atL, zvn])
  refine zw_if (fun c2 => ?_) (fun c2 => ?_)
  · refine zw_some ?_
    first | exact True.intro | ((try dsimp only); (repeat' apply And.intro) <;> first | with_reducible assumption | first | lia | grind [zu_at, zu_atL, zvn])
  refine zw_if (fun c3 => ?_) (fun c3 => ?_)
  · refine zw_some ?_
    first | exact True.intro | ((try dsimp only); (repeat' apply And.intro) <;> first | with_reducible assumption | first | lia | grind [zu_at, zu_atL, zvn])
  refine zw_zb0 (sf_X9_hasNumber p1 v3_0 (by first | with_reducible assumption | exact ⟨by with_reducible assumption, by with_reducible assumption⟩ | first | lia | grind [zu_at, zu_atL, zvn])) (fun o_8 ho_8 => ?_)
  obtain ⟨ho_8_0, ho_8_1, ho_8_2, ho_8_3, ho_8_4, ho_8_5⟩ := ho_8
  refine zw_if (fun c4 => ?_) (fun c4 => ?_)
  · refine zw_some ?_
    first | exact True.intro | ((try dsimp only); (repeat' apply And.intro) <;> first | with_reducible assumption | first | lia | grind [zu_at, zu_atL, zvn])
  refine zw_zb0 (sf_X9_formatOf p1 v3_0 f10 o_1_6 (by first | with_reducible assumption | exact ⟨by with_reducible assumption, by with_reducible assumption⟩ | first | lia | grind [zu_at, zu_atL, zvn]) (by first | with_reducible assumption | exact ⟨by with_reducible assumption, by with_reducible assumption⟩ | first | lia | grind [zu_at, zu_atL, zvn])) (fun o_13 ho_13 => ?_)
  refine zw_some ?_
  first | exact True.intro | ((try dsimp only); (repeat' apply And.intro) <;> first | with_reducible assumption | first | lia | grind [zu_at, zu_atL, zvn])
set_option maxHeartbeats 4000000 in
set_option maxRecDepth 100000 in
theorem sf_X11_single (p1 : Int32) (v1_0 : Int32) (v1_5 : Int32) (v2_0 : Int32) (v3_0 : Int32) (v3_2 : Int32) (v4_12 : Int32) (v4_13 : Int32) (v4_14 : Int32) (v4_15 : Int32) (f5 : Nat → Int32) (f6 : Nat → Int32) (f7 : Nat → Int32) (f8 : Nat → Int32) (f9 : Nat → Int32) (f10 : Nat → Int32) (v11_1 : Int32) (v11_2 : Int32) (f12 : Nat → Int32) (f13 : Nat → Int32) (f14 : Nat → Int64) (f15 : Nat → Int32) (f17 : Nat → Int64) (f18 : Nat → Int64) (f19 : Nat → Int32) (f20 : Nat → Int32) (f21 : Nat → Int32) (h_v1_0 : 0 ≤ v1_0 ∧ v1_0 ≤ 4) (h_v2_0 : 0 ≤ v2_0 ∧ v2_0 ≤ 14) (h_v3_0 : 0 ≤ v3_0 ∧ v3_0 ≤ 14) (h_v3_2 : 0 ≤ v3_2 ∧ v3_2 ≤ 1) (h_v4_14 : (-1) ≤ v4_14 ∧ v4_14 ≤ 13) (h_v4_15 : (-1) ≤ v4_15 ∧ v4_15 ≤ 3) (h_f8 : (∀ i : Nat, 0 ≤ f8 i ∧ f8 i ≤ 13)) : zw (fn_X11_single p1 v1_0 v1_5 v2_0 v3_0 v3_2 v4_12 v4_13 v4_14 v4_15 f5 f6 f7 f8 f9 f10 v11_1 v11_2 f12 f13 f14 f15 f17 f18 f19 f20 f21) (fun r => (-1) ≤ r.2.2.2.1 ∧ r.2.2.2.1 ≤ 13 ∧ (-1) ≤ r.2.2.2.2.1 ∧ r.2.2.2.2.1 ≤ 3) := by
  unfold fn_X11_single
  refine zw_zb0 (sf_X9_hasChoice v2_0 v3_2 (by first | with_reducible assumption | exact ⟨by with_reducible assumption, by with_reducible assumption⟩ | first | lia | grind [zu_at, zu_atL, zvn]) (by first | with_reducible assumption | exact ⟨by with_reducible assumption, by with_reducible assumption⟩ | first | lia | grind [zu_at, zu_atL, zvn])) (fun o_1 ho_1 => ?_)
  obtain ⟨ho_1_0, ho_1_1, ho_1_2, ho_1_3, ho_1_4, ho_1_5, ho_1_6⟩ := ho_1
  refine zw_if (fun c1 => ?_) (fun c1 => ?_)
  · refine zw_some ?_
    first | exact True.intro | ((try dsimp only); (repeat' apply And.intro) <;> first | with_reducible assumption | first | lia | grind [zu_at, zu_atL, zvn])
  refine zw_zb0 (sf_X3_lookAround f5 f6 v1_0 v1_5 v2_0 f7 v3_0 f8 f9 f10 v11_1 v11_2 f12 f13 f14 f15 f17 f18 f19 f20 (by first | with_reducible assumption | exact ⟨by with_reducible assumption, by with_reducible assumption⟩ | first | lia | grind [zu_at, zu_atL, zvn]) (by first | with_reducible assumption | exact ⟨by with_reducible assumption, by with_reducible assumption⟩ | first | lia | grind [zu_at, zu_atL, zvn]) (by first | with_reducible assumption | exact ⟨by with_reducible assumption, by with_reducible assumption⟩ | first | lia | grind [zu_at, zu_atL, zvn]) (by first | with_reducible assumption | exact ⟨by with_reducible assumption, by with_reducible assumption⟩ | first | lia | grind [zu_at, zu_atL, zvn])) (fun o_6 ho_6 => ?_)
  obtain ⟨o_6_0, o_6_1, o_6_2, o_6_3, o_6_4, o_6_5, o_6_6, o_6_7⟩ := o_6
  try dsimp only at ho_6
  obtain ⟨ho_6_0, ho_6_1, ho_6_2, ho_6_3, ho_6_4, ho_6_5, ho_6_6⟩ := ho_6
  refine zw_if (fun c2 => ?_) (fun c2 => ?_)
  · refine zw_some ?_
    first | exact True.intro | ((try dsimp only); (repeat' apply And.intro) <;> first | with_reducible assumption | first | lia | grind [zu_at, zu_atL, zvn])
  refine zw_if (fun c3 => ?_) (fun c3 => ?_)
  · refine zw_some ?_
    first | exact True.intro | ((try dsimp only); (repeat' apply And.intro) <;> first | with_reducible assumption | first | lia | grind [zu_at, zu_atL, zvn])
  refine zw_if (fun c4 => ?_) (fun c4 => ?_)
  · refine zw_zb0 (sf_X2_leaderOf o_6_2 v3_0 f21 (by first | with_reducible assumption | exact ⟨by with_reducible assumption, by with_reducible assumption⟩ | first | lia | grind [zu_at, zu_atL, zvn])) (fun o_13 ho_13 => ?_)
    refine zw_some ?_
    first | exact True.intro | ((try dsimp only); (repeat' apply And.intro) <;> first | with_reducible assumption | first | lia | grind [zu_at, zu_atL, zvn])
  refine zw_if (fun c5 => ?_) (fun c5 => ?_)
  · refine zw_some ?_
    first | exact True.intro | ((try dsimp only); (repeat' apply And.intro) <;> first | with_reducible assumption | first | lia | grind [zu_at, zu_atL, zvn])
  refine zw_some ?_
  first | exact True.intro | ((try dsimp only); (repeat' apply And.intro) <;> first | with_reducible assumption | first | lia | grind [zu_at, zu_atL, zvn])
set_option maxHeartbeats 4000000 in
set_option maxRecDepth 100000 in
theorem sf_X11_takeSingle (v1_0 : Int32) (v1_5 : Int32) (v2_0 : Int32) (v3_0 : Int32) (v3_2 : Int32) (v4_12 : Int32) (v4_13 : Int32) (v4_14 : Int32) (v4_15 : Int32) (f5 : Nat → Int32) (f6 : Nat → Int32) (f7 : Nat → Int32) (f8 : Nat → Int32) (f9 : Nat → Int32) (f10 : Nat → Int32) (v11_1 : Int32) (v11_2 : Int32) (f12 : Nat → Int32) (f13 : Nat → Int32) (f14 : Nat → Int64) (f15 : Nat → Int32) (f17 : Nat → Int64) (f18 : Nat → Int64) (f19 : Nat → Int32) (f20 : Nat → Int32) (h_v1_0 : 0 ≤ v1_0 ∧ v1_0 ≤ 4) (h_v2_0 : 0 ≤ v2_0 ∧ v2_0 ≤ 14) (h_v3_0 : 0 ≤ v3_0 ∧ v3_0 ≤ 14) (h_v3_2 : 0 ≤ v3_2 ∧ v3_2 ≤ 1) (h_v4_14 : (-1) ≤ v4_14 ∧ v4_14 ≤ 13) (h_v4_15 : (-1) ≤ v4_15 ∧ v4_15 ≤ 3) (h_f8 : (∀ i : Nat, 0 ≤ f8 i ∧ f8 i ≤ 13)) : zw (fn_X11_takeSingle v1_0 v1_5 v2_0 v3_0 v3_2 v4_12 v4_13 v4_14 v4_15 f5 f6 f7 f8 f9 f10 v11_1 v11_2 f12 f13 f14 f15 f17 f18 f19 f20) (fun r => 0 ≤ r.1 ∧ r.1 ≤ 1 ∧ (-1) ≤ r.2.2.2.1 ∧ r.2.2.2.1 ≤ 13 ∧ (-1) ≤ r.2.2.2.2.1 ∧ r.2.2.2.2.1 ≤ 3 ∧ r.1 ≤ v2_0 ∧ r.1 ≤ v3_0 ∧ r.1 ≤ r.2.2.2.1 + 1 ∧ (r.1 = 0 → r.1 ≤ v1_0 ∧ r.1 ≤ v3_2 ∧ r.1 ≤ r.2.2.2.2.1 + 1 ∧ r.1 ≤ v4_14 + 1 ∧ r.1 ≤ v4_15 + 1) ∧ (¬ r.1 = 0 → 1 ≤ r.1 ∧ v3_2 ≤ 0 ∧ r.2.2.2.1 < v3_0 ∧ r.2.2.2.2.1 < v1_0) ∧ (r.1 = 1 → 0 ≤ r.2.2.2.1 ∧ 1 ≤ v2_0 ∧ 1 ≤ v3_0 ∧ v3_2 ≤ 0 ∧ r.2.2.2.1 < v3_0 ∧ r.2.2.2.2.1 < v1_0 ∧ v3_2 < r.1) ∧ (¬ r.1 = 1 → r.1 ≤ 0)) := by
  unfold fn_X11_takeSingle
  refine zw_zb0 (sf_X9_hasChoice v2_0 v3_2 (by first | with_reducible assumption | exact ⟨by with_reducible assumption, by with_reducible assumption⟩ | first | lia | grind [zu_at, zu_atL, zvn]) (by first | with_reducible assumption | exact ⟨by with_reducible assumption, by with_reducible assumption⟩ | first | lia | grind [zu_at, zu_atL, zvn])) (fun o_1 ho_1 => ?_)
  obtain ⟨ho_1_0, ho_1_1, ho_1_2, ho_1_3, ho_1_4, ho_1_5, ho_1_6⟩ := ho_1
  refine zw_if (fun c1 => ?_) (fun c1 => ?_)
  · refine zw_some ?_
    first | exact True.intro | ((try dsimp only); (repeat' apply And.intro) <;> first | with_reducible assumption | first | lia | grind [zu_at, zu_atL, zvn])
  refine zw_zb0 (sf_X3_lookAround f5 f6 v1_0 v1_5 v2_0 f7 v3_0 f8 f9 f10 v11_1 v11_2 f12 f13 f14 f15 f17 f18 f19 f20 (by first | with_reducible assumption | exact ⟨by with_reducible assumption, by with_reducible assumption⟩ | first | lia | grind [zu_at, zu_atL, zvn]) (by first | with_reducible assumption | exact ⟨by with_reducible assumption, by with_reducible assumption⟩ | first | lia | grind [zu_at, zu_atL, zvn]) (by first | with_reducible assumption | exact ⟨by with_reducible assumption, by with_reducible assumption⟩ | first | lia | grind [zu_at, zu_atL, zvn]) (by first | with_reducible assumption | exact ⟨by with_reducible assumption, by with_reducible assumption⟩ | first | lia | grind [zu_at, zu_atL, zvn])) (fun o_6 ho_6 => ?_)
  obtain ⟨o_6_0, o_6_1, o_6_2, o_6_3, o_6_4, o_6_5, o_6_6, o_6_7⟩ := o_6
  try dsimp only at ho_6
  obtain ⟨ho_6_0, ho_6_1, ho_6_2, ho_6_3, ho_6_4, ho_6_5, ho_6_6⟩ := ho_6
  refine zw_zb0 (sf_X2_isFree o_6_2 v3_0 f10 (by first | with_reducible assumption | exact ⟨by with_reducible assumption, by with_reducible assumption⟩ | first | lia | grind [zu_at, zu_atL, zvn])) (fun o_10 ho_10 => ?_)
  obtain ⟨ho_10_0, ho_10_1, ho_10_2, ho_10_3, ho_10_4, ho_10_5⟩ := ho_10
  refine zw_if (fun c2 => ?_) (fun c2 => ?_)
  · refine zw_some ?_
    first | exact True.intro | ((try dsimp only); (repeat' apply And.intro) <;> first | with_reducible assumption | first | lia | grind [zu_at, zu_atL, zvn])
  refine zw_zg32 14 (by decide) (by (try dsimp only); first | lia | grind [zu_at, zu_atL, zvn]) ?_
  refine zw_some ?_
  first | exact True.intro | ((try dsimp only); (repeat' apply And.intro) <;> first | with_reducible assumption | first | lia | grind [zu_at, zu_atL, zvn])
set_option maxHeartbeats 4000000 in
set_option maxRecDepth 100000 in
theorem sf_X11_takeCheapest (v1_2 : Int32) (v1_3 : Int32) (v1_6 : Int32) (v1_7 : Int32) (v1_8 : Int32) (v2_0 : Int32) (v2_5 : Int32) (v3_0 : Int32) (v4_0 : Int32) (v4_1 : Int32) (v4_2 : Int32) (f5 : Nat → Int32) (n6 : Nat) (f6 : Nat → Int32) (n7 : Nat) (f7 : Nat → Int32) (n8 : Nat) (f8 : Nat → Int32) (n9 : Nat) (f9 : Nat → Int32) (n10 : Nat) (f10 : Nat → Int32) (f11 : Nat → Int32) (f12 : Nat → Int32) (v13_1 : Int32) (v13_2 : Int32) (f14 : Nat → Int32) (f15 : Nat → Int32) (f16 : Nat → Int32) (f17 : Nat → Int32) (f18 : Nat → Int64) (f19 : Nat → Int32) (f21 : Nat → Int64) (f22 : Nat → Int64) (f23 : Nat → Int32) (f24 : Nat → Int32) (f25 : Nat → Int32) (h_v1_2 : 0 ≤ v1_2 ∧ v1_2 ≤ 1) (h_v1_3 : 0 ≤ v1_3 ∧ v1_3 ≤ 14) (h_v1_6 : 0 ≤ v1_6 ∧ v1_6 ≤ 1024) (h_v2_0 : 0 ≤ v2_0 ∧ v2_0 ≤ 4) (h_v3_0 : 0 ≤ v3_0 ∧ v3_0 ≤ 14) (h_v4_0 : 0 ≤ v4_0 ∧ v4_0 ≤ 14) (h_v4_1 : 0 ≤ v4_1 ∧ v4_1 ≤ 14) (h_v4_2 : 0 ≤ v4_2 ∧ v4_2 ≤ 1) (h_n6 : n6 ≤ 1024) (hN_n6 : 0 ≤ Int32.ofNat n6 ∧ Int32.ofNat n6 ≤ 1024) (h_n7 : n7 ≤ 14336) (hN_n7 : 0 ≤ Int32.ofNat n7 ∧ Int32.ofNat n7 ≤ 14336) (h_n8 : n8 ≤ 1024) (hN_n8 : 0 ≤ Int32.ofNat n8 ∧ Int32.ofNat n8 ≤ 1024) (h_n9 : n9 ≤ 1024) (hN_n9 : 0 ≤ Int32.ofNat n9 ∧ Int32.ofNat n9 ≤ 1024) (h_n10 : n10 ≤ 1024) (hN_n10 : 0 ≤ Int32.ofNat n10 ∧ Int32.ofNat n10 ≤ 1024) (h_f14 : (∀ i : Nat, 0 ≤ f14 i ∧ f14 i ≤ 13)) (hr_0 : v1_6 ≤ (Int32.ofNat n6)) (hr_1 : (Int32.ofNat n6) ≤ (Int32.ofNat n9)) (hr_2 : (Int32.ofNat n6) ≤ (Int32.ofNat n8)) (hr_3 : (Int32.ofNat n6) ≤ (Int32.ofNat n10)) (hr_4 : (Int32.ofNat n9) ≤ (Int32.ofNat n6)) (hr_5 : (Int32.ofNat n8) ≤ (Int32.ofNat n6)) (hr_6 : (Int32.ofNat n10) ≤ (Int32.ofNat n6)) : zw (fn_X11_takeCheapest v1_2 v1_3 v1_6 v1_7 v1_8 v2_0 v2_5 v3_0 v4_0 v4_1 v4_2 f5 n6 f6 n7 f7 n8 f8 n9 f9 n10 f10 f11 f12 v13_1 v13_2 f14 f15 f16 f17 f18 f19 f21 f22 f23 f24 f25) (fun r => 0 ≤ r.1 ∧ r.1 ≤ 1 ∧ 0 ≤ r.2.1 ∧ r.2.1 ≤ 1 ∧ 0 ≤ r.2.2.1 ∧ r.2.2.1 ≤ 14 ∧ 0 ≤ r.2.2.2.1 ∧ r.2.2.2.1 ≤ 1024 ∧ r.2.2.2.2.2.2.2.1 ≤ 1024 ∧ 0 ≤ Int32.ofNat r.2.2.2.2.2.2.2.1 ∧ Int32.ofNat r.2.2.2.2.2.2.2.1 ≤ 1024 ∧ r.2.2.2.2.2.2.2.2.2.1 ≤ 14336 ∧ 0 ≤ Int32.ofNat r.2.2.2.2.2.2.2.2.2.1 ∧ Int32.ofNat r.2.2.2.2.2.2.2.2.2.1 ≤ 14336 ∧ r.2.2.2.2.2.2.2.2.2.2.2.1 ≤ 1024 ∧ 0 ≤ Int32.ofNat r.2.2.2.2.2.2.2.2.2.2.2.1 ∧ Int32.ofNat r.2.2.2.2.2.2.2.2.2.2.2.1 ≤ 1024 ∧ r.2.2.2.2.2.2.2.2.2.2.2.2.2.1 ≤ 1024 ∧ 0 ≤ Int32.ofNat r.2.2.2.2.2.2.2.2.2.2.2.2.2.1 ∧ Int32.ofNat r.2.2.2.2.2.2.2.2.2.2.2.2.2.1 ≤ 1024 ∧ r.2.2.2.2.2.2.2.2.2.2.2.2.2.2.2.1 ≤ 1024 ∧ 0 ≤ Int32.ofNat r.2.2.2.2.2.2.2.2.2.2.2.2.2.2.2.1 ∧ Int32.ofNat r.2.2.2.2.2.2.2.2.2.2.2.2.2.2.2.1 ≤ 1024 ∧ (Int32.ofNat r.2.2.2.2.2.2.2.2.2.2.2.1) ≤ (Int32.ofNat r.2.2.2.2.2.2.2.1) ∧ (Int32.ofNat r.2.2.2.2.2.2.2.2.2.2.2.2.2.1) ≤ (Int32.ofNat r.2.2.2.2.2.2.2.1) ∧ (Int32.ofNat r.2.2.2.2.2.2.2.2.2.2.2.2.2.2.2.1) ≤ (Int32.ofNat r.2.2.2.2.2.2.2.1) ∧ (Int32.ofNat r.2.2.2.2.2.2.2.1) ≤ (Int32.ofNat r.2.2.2.2.2.2.2.2.2.2.2.1) ∧ (Int32.ofNat r.2.2.2.2.2.2.2.1) ≤ (Int32.ofNat r.2.2.2.2.2.2.2.2.2.2.2.2.2.1) ∧ (Int32.ofNat r.2.2.2.2.2.2.2.1) ≤ (Int32.ofNat r.2.2.2.2.2.2.2.2.2.2.2.2.2.2.2.1) ∧ r.2.2.2.1 ≤ (Int32.ofNat r.2.2.2.2.2.2.2.1) ∧ v1_6 ≤ (Int32.ofNat r.2.2.2.2.2.2.2.1) ∧ (Int32.ofNat n6) ≤ (Int32.ofNat r.2.2.2.2.2.2.2.1) ∧ (r.1 = 0 → r.1 ≤ r.2.1 ∧ r.1 ≤ r.2.2.1 ∧ r.1 ≤ r.2.2.2.1 ∧ r.1 ≤ v1_2 ∧ r.1 ≤ v1_3 ∧ r.1 ≤ v1_6 ∧ r.1 ≤ v2_0 ∧ r.1 ≤ v3_0 ∧ r.1 ≤ v4_0 ∧ r.1 ≤ v4_1 ∧ r.1 ≤ v4_2 ∧ r.1 ≤ (Int32.ofNat n7) ∧ r.1 ≤ (Int32.ofNat r.2.2.2.2.2.2.2.2.2.1)) ∧ (¬ r.1 = 0 → 1 ≤ r.1) ∧ (r.1 = 1 → r.2.1 ≤ r.1 ∧ v1_2 ≤ r.1 ∧ v4_2 ≤ r.1 ∧ v2_0 ≤ r.1 + 3) ∧ (¬ r.1 = 1 → r.1 ≤ 0) ∧ r.2.2.2.1 ≤ (Int32.ofNat r.2.2.2.2.2.2.2.1) ∧ (Int32.ofNat r.2.2.2.2.2.2.2.1) ≤ (Int32.ofNat r.2.2.2.2.2.2.2.2.2.2.2.2.2.1) ∧ (Int32.ofNat r.2.2.2.2.2.2.2.1) ≤ (Int32.ofNat r.2.2.2.2.2.2.2.2.2.2.2.1) ∧ (Int32.ofNat r.2.2.2.2.2.2.2.1) ≤ (Int32.ofNat r.2.2.2.2.2.2.2.2.2.2.2.2.2.2.2.1) ∧ (Int32.ofNat r.2.2.2.2.2.2.2.2.2.2.2.2.2.1) ≤ (Int32.ofNat r.2.2.2.2.2.2.2.1) ∧ (Int32.ofNat r.2.2.2.2.2.2.2.2.2.2.2.1) ≤ (Int32.ofNat r.2.2.2.2.2.2.2.1) ∧ (Int32.ofNat r.2.2.2.2.2.2.2.2.2.2.2.2.2.2.2.1) ≤ (Int32.ofNat r.2.2.2.2.2.2.2.1)) := by
  unfold fn_X11_takeCheapest
  refine zw_zb0 (sf_X1_search v1_2 v1_3 v1_6 v1_7 v1_8 v2_0 v2_5 v3_0 v4_0 v4_1 v4_2 f5 n6 f6 n7 f7 n8 f8 n9 f9 n10 f10 f11 f12 v13_1 v13_2 f14 f15 f16 f17 f18 f19 f21 f22 f23 f24 (by first | with_reducible assumption | exact ⟨by with_reducible assumption, by with_reducible assumption⟩ | first | lia | grind [zu_at, zu_atL, zvn]) (by first | with_reducible assumption | exact ⟨by with_reducible assumption, by with_reducible assumption⟩ | first | lia | grind [zu_at, zu_atL, zvn]) (by first | with_reducible assumption | exact ⟨by with_reducible assumption, by with_reducible assumption⟩ | first | lia | grind [zu_at, zu_atL, zvn]) (by first | with_reducible assumption | exact ⟨by with_reducible assumption, by with_reducible assumption⟩ | first | lia | grind [zu_at, zu_atL, zvn]) (by first | with_reducible assumption | exact ⟨by with_reducible assumption, by with_reducible assumption⟩ | first | lia | grind [zu_at, zu_atL, zvn]) (by first | with_reducible assumption | exact ⟨by with_reducible assumption, by with_reducible assumption⟩ | first | lia | grind [zu_at, zu_atL, zvn]) (by first | with_reducible assumption | exact ⟨by with_reducible assumption, by with_reducible assumption⟩ | first | lia | grind [zu_at, zu_atL, zvn]) (by first | with_reducible assumption | exact ⟨by with_reducible assumption, by with_reducible assumption⟩ | first | lia | grind [zu_at, zu_atL, zvn]) (by first | with_reducible assumption | exact ⟨by with_reducible assumption, by with_reducible assumption⟩ | first | lia | grind [zu_at, zu_atL, zvn]) (by first | with_reducible assumption | exact ⟨by with_reducible assumption, by with_reducible assumption⟩ | first | lia | grind [zu_at, zu_atL, zvn]) (by first | with_reducible assumption | exact ⟨by with_reducible assumption, by with_reducible assumption⟩ | first | lia | grind [zu_at, zu_atL, zvn]) (by first | with_reducible assumption | exact ⟨by with_reducible assumption, by with_reducible assumption⟩ | first | lia | grind [zu_at, zu_atL, zvn]) (by first | with_reducible assumption | exact ⟨by with_reducible assumption, by with_reducible assumption⟩ | first | lia | grind [zu_at, zu_atL, zvn]) (by first | with_reducible assumption | exact ⟨by with_reducible assumption, by with_reducible assumption⟩ | first | lia | grind [zu_at, zu_atL, zvn]) (by first | with_reducible assumption | exact ⟨by with_reducible assumption, by with_reducible assumption⟩ | first | lia | grind [zu_at, zu_atL, zvn]) (by first | with_reducible assumption | exact ⟨by with_reducible assumption, by with_reducible assumption⟩ | first | lia | grind [zu_at, zu_atL, zvn]) (by first | with_reducible assumption | exact ⟨by with_reducible assumption, by with_reducible assumption⟩ | first | lia | grind [zu_at, zu_atL, zvn]) (by first | with_reducible assumption | exact ⟨by with_reducible assumption, by with_reducible assumption⟩ | first | lia | grind [zu_at, zu_atL, zvn]) (by first | with_reducible assumption | exact ⟨by with_reducible assumption, by with_reducible assumption⟩ | first | lia | grind [zu_at, zu_atL, zvn]) (by first | with_reducible assumption | exact ⟨by with_reducible assumption, by with_reducible assumption⟩ | first | lia | grind [zu_at, zu_atL, zvn]) (by first | with_reducible assumption | exact ⟨by with_reducible assumption, by with_reducible assumption⟩ | first | lia | grind [zu_at, zu_atL, zvn]) (by first | with_reducible assumption | exact ⟨by with_reducible assumption, by with_reducible assumption⟩ | first | lia | grind [zu_at, zu_atL, zvn]) (by first | with_reducible assumption | exact ⟨by with_reducible assumption, by with_reducible assumption⟩ | first | lia | grind [zu_at, zu_atL, zvn]) (by first | with_reducible assumption | exact ⟨by with_reducible assumption, by with_reducible assumption⟩ | first | lia | grind [zu_at, zu_atL, zvn]) (by first | with_reducible assumption | exact ⟨by with_reducible assumption, by with_reducible assumption⟩ | first | lia | grind [zu_at, zu_atL, zvn]) (by first | with_reducible assumption | exact ⟨by with_reducible assumption, by with_reducible assumption⟩ | first | lia | grind [zu_at, zu_atL, zvn])) (fun o_1 ho_1 => ?_)
  obtain ⟨o_1_0, o_1_1, o_1_2, o_1_3, o_1_4, o_1_5, o_1_6, o_1_7, o_1_8, o_1_9, o_1_10, o_1_11, o_1_12, o_1_13, o_1_14, o_1_15, o_1_16, o_1_17, o_1_18, o_1_19⟩ := o_1
  try dsimp only at ho_1
  obtain ⟨ho_1_0, ho_1_1, ho_1_2, ho_1_3, ho_1_4, ho_1_5, ho_1_6, ho_1_7, ho_1_8, ho_1_9, ho_1_10, ho_1_11, ho_1_12, ho_1_13, ho_1_14, ho_1_15, ho_1_16, ho_1_17, ho_1_18, ho_1_19, ho_1_20, ho_1_21, ho_1_22, ho_1_23, ho_1_24, ho_1_25, ho_1_26, ho_1_27, ho_1_28, ho_1_29, ho_1_30⟩ := ho_1
  refine zw_if (fun c1 => ?_) (fun c1 => ?_)
  · refine zw_some ?_
    first | exact True.intro | ((try dsimp only); (repeat' apply And.intro) <;> first | with_reducible assumption | first | lia | grind [zu_at, zu_atL, zvn])
  refine zw_if (fun c2 => ?_) (fun c2 => ?_)
  · refine zw_some ?_
    first | exact True.intro | ((try dsimp only); (repeat' apply And.intro) <;> first | with_reducible assumption | first | lia | grind [zu_at, zu_atL, zvn])
  refine zw_zb0 (sf_X1_unfold o_1_4 v2_0 v4_0 f11 f25 (by first | with_reducible assumption | exact ⟨by with_reducible assumption, by with_reducible assumption⟩ | first | lia | grind [zu_at, zu_atL, zvn]) (by first | with_reducible assumption | exact ⟨by with_reducible assumption, by with_reducible assumption⟩ | first | lia | grind [zu_at, zu_atL, zvn])) (fun o_7 ho_7 => ?_)
  refine zw_some ?_
  first | exact True.intro | ((try dsimp only); (repeat' apply And.intro) <;> first | with_reducible assumption | first | lia | grind [zu_at, zu_atL, zvn])
set_option maxHeartbeats 4000000 in
set_option maxRecDepth 100000 in
theorem sf_X11_take (p1 : Int32) (v1_2 : Int32) (v1_3 : Int32) (v1_8 : Int32) (v1_10 : Int32) (v1_11 : Int32) (v1_12 : Int32) (v1_13 : Int32) (v1_14 : Int32) (v1_15 : Int32) (v2_0 : Int32) (v2_5 : Int32) (v3_0 : Int32) (v4_0 : Int32) (v4_1 : Int32) (v4_2 : Int32) (f5 : Nat → Int32) (f6 : Nat → Int32) (f7 : Nat → Int32) (f8 : Nat → Int32) (v9_1 : Int32) (v9_2 : Int32) (f10 : Nat → Int32) (f11 : Nat → Int32) (f12 : Nat → Int32) (f13 : Nat → Int64) (f14 : Nat → Int32) (f16 : Nat → Int64) (f17 : Nat → Int64) (f18 : Nat → Int32) (f19 : Nat → Int32) (f20 : Nat → Int32) (f21 : Nat → Int32) (f22 : Nat → Int32) (f23 : Nat → Int32) (f24 : Nat → Int32) (f25 : Nat → Int32) (v26_2 : Int32) (v26_3 : Int32) (v26_6 : Int32) (v26_7 : Int32) (v26_8 : Int32) (n27 : Nat) (f27 : Nat → Int32) (n28 : Nat) (f28 : Nat → Int32) (n29 : Nat) (f29 : Nat → Int32) (n30 : Nat) (f30 : Nat → Int32) (n31 : Nat) (f31 : Nat → Int32) (f32 : Nat → Int32) (v33_1 : Int32) (v33_2 : Int32) (f34 : Nat → Int64) (f35 : Nat → Int32) (h_v1_2 : 0 ≤ v1_2 ∧ v1_2 ≤ 1) (h_v1_3 : 0 ≤ v1_3 ∧ v1_3 ≤ 1) (h_v1_8 : 0 ≤ v1_8 ∧ v1_8 ≤ 28) (h_v1_14 : (-1) ≤ v1_14 ∧ v1_14 ≤ 13) (h_v1_15 : (-1) ≤ v1_15 ∧ v1_15 ≤ 3) (h_v2_0 : 0 ≤ v2_0 ∧ v2_0 ≤ 4) (h_v3_0 : 0 ≤ v3_0 ∧ v3_0 ≤ 14) (h_v4_0 : 0 ≤ v4_0 ∧ v4_0 ≤ 14) (h_v4_1 : 0 ≤ v4_1 ∧ v4_1 ≤ 14) (h_v4_2 : 0 ≤ v4_2 ∧ v4_2 ≤ 1) (h_f8 : (∀ i : Nat, 0 ≤ f8 i ∧ f8 i ≤ 1)) (h_f10 : (∀ i : Nat, 0 ≤ f10 i ∧ f10 i ≤ 13)) (h_f21 : (∀ i : Nat, 0 ≤ f21 i ∧ f21 i ≤ 13)) (h_f22 : (∀ i : Nat, 0 ≤ f22 i ∧ f22 i ≤ 14)) (h_f23 : (∀ i : Nat, 0 ≤ f23 i ∧ f23 i ≤ 14)) (h_v26_2 : 0 ≤ v26_2 ∧ v26_2 ≤ 1) (h_v26_3 : 0 ≤ v26_3 ∧ v26_3 ≤ 14) (h_v26_6 : 0 ≤ v26_6 ∧ v26_6 ≤ 1024) (h_n27 : n27 ≤ 1024) (hN_n27 : 0 ≤ Int32.ofNat n27 ∧ Int32.ofNat n27 ≤ 1024) (h_n28 : n28 ≤ 14336) (hN_n28 : 0 ≤ Int32.ofNat n28 ∧ Int32.ofNat n28 ≤ 14336) (h_n29 : n29 ≤ 1024) (hN_n29 : 0 ≤ Int32.ofNat n29 ∧ Int32.ofNat n29 ≤ 1024) (h_n30 : n30 ≤ 1024) (hN_n30 : 0 ≤ Int32.ofNat n30 ∧ Int32.ofNat n30 ≤ 1024) (h_n31 : n31 ≤ 1024) (hN_n31 : 0 ≤ Int32.ofNat n31 ∧ Int32.ofNat n31 ≤ 1024) (hr_0 : v26_6 ≤ (Int32.ofNat n27)) (hr_1 : (Int32.ofNat n27) ≤ (Int32.ofNat n30)) (hr_2 : (Int32.ofNat n27) ≤ (Int32.ofNat n29)) (hr_3 : (Int32.ofNat n27) ≤ (Int32.ofNat n31)) (hr_4 : (Int32.ofNat n30) ≤ (Int32.ofNat n27)) (hr_5 : (Int32.ofNat n29) ≤ (Int32.ofNat n27)) (hr_6 : (Int32.ofNat n31) ≤ (Int32.ofNat n27)) : zw (fn_X11_take p1 v1_2 v1_3 v1_8 v1_10 v1_11 v1_12 v1_13 v1_14 v1_15 v2_0 v2_5 v3_0 v4_0 v4_1 v4_2 f5 f6 f7 f8 v9_1 v9_2 f10 f11 f12 f13 f14 f16 f17 f18 f19 f20 f21 f22 f23 f24 f25 v26_2 v26_3 v26_6 v26_7 v26_8 n27 f27 n28 f28 n29 f29 n30 f30 n31 f31 f32 v33_1 v33_2 f34 f35) (fun r => (-1) ≤ r.2.2.2.2.2.1 ∧ r.2.2.2.2.2.1 ≤ 13 ∧ (-1) ≤ r.2.2.2.2.2.2.1 ∧ r.2.2.2.2.2.2.1 ≤ 3 ∧ 0 ≤ r.2.2.2.2.2.2.2.1 ∧ r.2.2.2.2.2.2.2.1 ≤ 1 ∧ 0 ≤ r.2.2.2.2.2.2.2.2.1 ∧ r.2.2.2.2.2.2.2.2.1 ≤ 1 ∧ 0 ≤ r.2.2.2.2.2.2.2.2.2.1 ∧ r.2.2.2.2.2.2.2.2.2.1 ≤ 28 ∧ (∀ i : Nat, 0 ≤ r.2.2.2.2.2.2.2.2.2.2.2.1 i ∧ r.2.2.2.2.2.2.2.2.2.2.2.1 i ≤ 1) ∧ (∀ i : Nat, 0 ≤ r.2.2.2.2.2.2.2.2.2.2.2.2.2.2.2.1 i ∧ r.2.2.2.2.2.2.2.2.2.2.2.2.2.2.2.1 i ≤ 13) ∧ (∀ i : Nat, 0 ≤ r.2.2.2.2.2.2.2.2.2.2.2.2.2.2.2.2.1 i ∧ r.2.2.2.2.2.2.2.2.2.2.2.2.2.2.2.2.1 i ≤ 14) ∧ (∀ i : Nat, 0 ≤ r.2.2.2.2.2.2.2.2.2.2.2.2.2.2.2.2.2.1 i ∧ r.2.2.2.2.2.2.2.2.2.2.2.2.2.2.2.2.2.1 i ≤ 14) ∧ 0 ≤ r.2.2.2.2.2.2.2.2.2.2.2.2.2.2.2.2.2.2.2.2.1 ∧ r.2.2.2.2.2.2.2.2.2.2.2.2.2.2.2.2.2.2.2.2.1 ≤ 1 ∧ 0 ≤ r.2.2.2.2.2.2.2.2.2.2.2.2.2.2.2.2.2.2.2.2.2.1 ∧ r.2.2.2.2.2.2.2.2.2.2.2.2.2.2.2.2.2.2.2.2.2.1 ≤ 14 ∧ 0 ≤ r.2.2.2.2.2.2.2.2.2.2.2.2.2.2.2.2.2.2.2.2.2.2.1 ∧ r.2.2.2.2.2.2.2.2.2.2.2.2.2.2.2.2.2.2.2.2.2.2.1 ≤ 1024 ∧ r.2.2.2.2.2.2.2.2.2.2.2.2.2.2.2.2.2.2.2.2.2.2.2.2.2.2.1 ≤ 1024 ∧ 0 ≤ Int32.ofNat r.2.2.2.2.2.2.2.2.2.2.2.2.2.2.2.2.2.2.2.2.2.2.2.2.2.2.1 ∧ Int32.ofNat r.2.2.2.2.2.2.2.2.2.2.2.2.2.2.2.2.2.2.2.2.2.2.2.2.2.2.1 ≤ 1024 ∧ r.2.2.2.2.2.2.2.2.2.2.2.2.2.2.2.2.2.2.2.2.2.2.2.2.2.2.2.2.1 ≤ 14336 ∧ 0 ≤ Int32.ofNat r.2.2.2.2.2.2.2.2.2.2.2.2.2.2.2.2.2.2.2.2.2.2.2.2.2.2.2.2.1 ∧ Int32.ofNat r.2.2.2.2.2.2.2.2.2.2.2.2.2.2.2.2.2.2.2.2.2.2.2.2.2.2.2.2.1 ≤ 14336 ∧ r.2.2.2.2.2.2.2.2.2.2.2.2.2.2.2.2.2.2.2.2.2.2.2.2.2.2.2.2.2.2.1 ≤ 1024 ∧ 0 ≤ Int32.ofNat r.2.2.2.2.2.2.2.2.2.2.2.2.2.2.2.2.2.2.2.2.2.2.2.2.2.2.2.2.2.2.1 ∧ Int32.ofNat r.2.2.2.2.2.2.2.2.2.2.2.2.2.2.2.2.2.2.2.2.2.2.2.2.2.2.2.2.2.2.1 ≤ 1024 ∧ r.2.2.2.2.2.2.2.2.2.2.2.2.2.2.2.2.2.2.2.2.2.2.2.2.2.2.2.2.2.2.2.2.1 ≤ 1024 ∧ 0 ≤ Int32.ofNat r.2.2.2.2.2.2.2.2.2.2.2.2.2.2.2.2.2.2.2.2.2.2.2.2.2.2.2.2.2.2.2.2.1 ∧ Int32.ofNat r.2.2.2.2.2.2.2.2.2.2.2.2.2.2.2.2.2.2.2.2.2.2.2.2.2.2.2.2.2.2.2.2.1 ≤ 1024 ∧ r.2.2.2.2.2.2.2.2.2.2.2.2.2.2.2.2.2.2.2.2.2.2.2.2.2.2.2.2.2.2.2.2.2.2.1 ≤ 1024 ∧ 0 ≤ Int32.ofNat r.2.2.2.2.2.2.2.2.2.2.2.2.2.2.2.2.2.2.2.2.2.2.2.2.2.2.2.2.2.2.2.2.2.2.1 ∧ Int32.ofNat r.2.2.2.2.2.2.2.2.2.2.2.2.2.2.2.2.2.2.2.2.2.2.2.2.2.2.2.2.2.2.2.2.2.2.1 ≤ 1024 ∧ r.2.2.2.2.2.2.2.2.2.2.2.2.2.2.2.2.2.2.2.2.2.2.1 ≤ (Int32.ofNat r.2.2.2.2.2.2.2.2.2.2.2.2.2.2.2.2.2.2.2.2.2.2.2.2.2.2.1) ∧ (Int32.ofNat r.2.2.2.2.2.2.2.2.2.2.2.2.2.2.2.2.2.2.2.2.2.2.2.2.2.2.1) ≤ (Int32.ofNat r.2.2.2.2.2.2.2.2.2.2.2.2.2.2.2.2.2.2.2.2.2.2.2.2.2.2.2.2.2.2.2.2.1) ∧ (Int32.ofNat r.2.2.2.2.2.2.2.2.2.2.2.2.2.2.2.2.2.2.2.2.2.2.2.2.2.2.1) ≤ (Int32.ofNat r.2.2.2.2.2.2.2.2.2.2.2.2.2.2.2.2.2.2.2.2.2.2.2.2.2.2.2.2.2.2.1) ∧ (Int32.ofNat r.2.2.2.2.2.2.2.2.2.2.2.2.2.2.2.2.2.2.2.2.2.2.2.2.2.2.1) ≤ (Int32.ofNat r.2.2.2.2.2.2.2.2.2.2.2.2.2.2.2.2.2.2.2.2.2.2.2.2.2.2.2.2.2.2.2.2.2.2.1) ∧ (Int32.ofNat r.2.2.2.2.2.2.2.2.2.2.2.2.2.2.2.2.2.2.2.2.2.2.2.2.2.2.2.2.2.2.2.2.1) ≤ (Int32.ofNat r.2.2.2.2.2.2.2.2.2.2.2.2.2.2.2.2.2.2.2.2.2.2.2.2.2.2.1) ∧ (Int32.ofNat r.2.2.2.2.2.2.2.2.2.2.2.2.2.2.2.2.2.2.2.2.2.2.2.2.2.2.2.2.2.2.1) ≤ (Int32.ofNat r.2.2.2.2.2.2.2.2.2.2.2.2.2.2.2.2.2.2.2.2.2.2.2.2.2.2.1) ∧ (Int32.ofNat r.2.2.2.2.2.2.2.2.2.2.2.2.2.2.2.2.2.2.2.2.2.2.2.2.2.2.2.2.2.2.2.2.2.2.1) ≤ (Int32.ofNat r.2.2.2.2.2.2.2.2.2.2.2.2.2.2.2.2.2.2.2.2.2.2.2.2.2.2.1) ∧ (Int32.ofNat n27) ≤ (Int32.ofNat r.2.2.2.2.2.2.2.2.2.2.2.2.2.2.2.2.2.2.2.2.2.2.2.2.2.2.1)) := by
  unfold fn_X11_take
  refine zw_if (fun c1 => ?_) (fun c1 => ?_)
  · refine zw_zb0 (sf_X11_takeCheapest v26_2 v26_3 v26_6 v26_7 v26_8 v2_0 v2_5 v3_0 v4_0 v4_1 v4_2 f19 n27 f27 n28 f28 n29 f29 n30 f30 n31 f31 f7 f32 v33_1 v33_2 f10 f5 f11 f12 f34 f14 f16 f17 f18 f20 f24 (by first | with_reducible assumption | exact ⟨by with_reducible assumption, by with_reducible assumption⟩ | first | lia | grind [zu_at, zu_atL, zvn]) (by first | with_reducible assumption | exact ⟨by with_reducible assumption, by with_reducible assumption⟩ | first | lia | grind [zu_at, zu_atL, zvn]) (by first | with_reducible assumption | exact ⟨by with_reducible assumption, by with_reducible assumption⟩ | first | lia | grind [zu_at, zu_atL, zvn]) (by first | with_reducible assumption | exact ⟨by with_reducible assumption, by with_reducible assumption⟩ | first | lia | grind [zu_at, zu_atL, zvn]) (by first | with_reducible assumption | exact ⟨by with_reducible assumption, by with_reducible assumption⟩ | first | lia | grind [zu_at, zu_atL, zvn]) (by first | with_reducible assumption | exact ⟨by with_reducible assumption, by with_reducible assumption⟩ | first | lia | grind [zu_at, zu_atL, zvn]) (by first | with_reducible assumption | exact ⟨by with_reducible assumption, by with_reducible assumption⟩ | first | lia | grind [zu_at, zu_atL, zvn]) (by first | with_reducible assumption | exact ⟨by with_reducible assumption, by with_reducible assumption⟩ | first | lia | grind [zu_at, zu_atL, zvn]) (by first | with_reducible assumption | exact ⟨by with_reducible assumption, by with_reducible assumption⟩ | first | lia | grind [zu_at, zu_atL, zvn]) (by first | with_reducible assumption | exact ⟨by with_reducible assumption, by with_reducible assumption⟩ | first | lia | grind [zu_at, zu_atL, zvn]) (by first | with_reducible assumption | exact ⟨by with_reducible assumption, by with_reducible assumption⟩ | first | lia | grind [zu_at, zu_atL, zvn]) (by first | with_reducible assumption | exact ⟨by with_reducible assumption, by with_reducible assumption⟩ | first | lia | grind [zu_at, zu_atL, zvn]) (by first | with_reducible assumption | exact ⟨by with_reducible assumption, by with_reducible assumption⟩ | first | lia | grind [zu_at, zu_atL, zvn]) (by first | with_reducible assumption | exact ⟨by with_reducible assumption, by with_reducible assumption⟩ | first | lia | grind [zu_at, zu_atL, zvn]) (by first | with_reducible assumption | exact ⟨by with_reducible assumption, by with_reducible assumption⟩ | first | lia | grind [zu_at, zu_atL, zvn]) (by first | with_reducible assumption | exact ⟨by with_reducible assumption, by with_reducible assumption⟩ | first | lia | grind [zu_at, zu_atL, zvn]) (by first | with_reducible assumption | exact ⟨by with_reducible assumption, by with_reducible assumption⟩ | first | lia | grind [zu_at, zu_atL, zvn]) (by first | with_reducible assumption | exact ⟨by with_reducible assumption, by with_reducible assumption⟩ | first | lia | grind [zu_at, zu_atL, zvn]) (by first | with_reducible assumption | exact ⟨by with_reducible assumption, by with_reducible assumption⟩ | first | lia | grind [zu_at, zu_atL, zvn]) (by first | with_reducible assumption | exact ⟨by with_reducible assumption, by with_reducible assumption⟩ | first | lia | grind [zu_at, zu_atL, zvn]) (by first | with_reducible assumption | exact ⟨by with_reducible assumption, by with_reducible assumption⟩ | first | lia | grind [zu_at, zu_atL, zvn]) (by first | with_reducible assumption | exact ⟨by with_reducible assumption, by with_reducible assumption⟩ | first | lia | grind [zu_at, zu_atL, zvn]) (by first | with_reducible assumption | exact ⟨by with_reducible assumption, by with_reducible assumption⟩ | first | lia | grind [zu_at, zu_atL, zvn]) (by first | with_reducible assumption | exact ⟨by with_reducible assumption, by with_reducible assumption⟩ | first | lia | grind [zu_at, zu_atL, zvn]) (by first | with_reducible assumption | exact ⟨by with_reducible assumption, by with_reducible assumption⟩ | first | lia | grind [zu_at, zu_atL, zvn]) (by first | with_reducible assumption | exact ⟨by with_reducible assumption, by with_reducible assumption⟩ | first | lia | grind [zu_at, zu_atL, zvn])) (fun o_28 ho_28 => ?_)
    obtain ⟨o_28_0, o_28_1, o_28_2, o_28_3, o_28_4, o_28_5, o_28_6, o_28_7, o_28_8, o_28_9, o_28_10, o_28_11, o_28_12, o_28_13, o_28_14, o_28_15, o_28_16, o_28_17, o_28_18, o_28_19, o_28_20⟩ := o_28
    try dsimp only at ho_28
    obtain ⟨ho_28_0, ho_28_1, ho_28_2, ho_28_3, ho_28_4, ho_28_5, ho_28_6, ho_28_7, ho_28_8, ho_28_9, ho_28_10, ho_28_11, ho_28_12, ho_28_13, ho_28_14, ho_28_15, ho_28_16, ho_28_17, ho_28_18, ho_28_19, ho_28_20, ho_28_21, ho_28_22, ho_28_23, ho_28_24, ho_28_25, ho_28_26, ho_28_27, ho_28_28, ho_28_29, ho_28_30, ho_28_31, ho_28_32, ho_28_33, ho_28_34, ho_28_35, ho_28_36, ho_28_37, ho_28_38, ho_28_39, ho_28_40, ho_28_41, ho_28_42⟩ := ho_28
    refine zw_if (fun c2 => ?_) (fun c2 => ?_)
    · refine zw_zb0 (sf_X11_refuse 2 f35) (fun o_33 ho_33 => ?_)
      obtain ⟨o_33_0, o_33_1⟩ := o_33
      try dsimp only at ho_33
      obtain ⟨ho_33_0, ho_33_1⟩ := ho_33
      refine zw_some ?_
      first | exact True.intro | ((try dsimp only); (repeat' apply And.intro) <;> first | with_reducible assumption | first | lia | grind [zu_at, zu_atL, zvn])
    refine zw_zb0 (sf_X9_priceOf v2_0 v2_5 v3_0 f12 f10 o_28_20 f20 (by first | with_reducible assumption | exact ⟨by with_reducible assumption, by with_reducible assumption⟩ | first | lia | grind [zu_at, zu_atL, zvn]) (by first | with_reducible assumption | exact ⟨by with_reducible assumption, by with_reducible assumption⟩ | first | lia | grind [zu_at, zu_atL, zvn]) (by first | with_reducible assumption | exact ⟨by with_reducible assumption, by with_reducible assumption⟩ | first | lia | grind [zu_at, zu_atL, zvn])) (fun o_37 ho_37 => ?_)
    refine zw_some ?_
    first | exact True.intro | ((try dsimp only); (repeat' apply And.intro) <;> first | with_reducible assumption | first | lia | grind [zu_at, zu_atL, zvn])
  refine zw_zj (fun s_2 => (∀ i : Nat, 0 ≤ s_2.2.2.2.2.2.2.2.2.2.2.2.2.2.2.1 i ∧ s_2.2.2.2.2.2.2.2.2.2.2.2.2.2.2.1 i ≤ 1) ∧ (∀ i : Nat, 0 ≤ s_2.2.2.2.2.2.2.2.2.2.2.2.2.2.2.2.1 i ∧ s_2.2.2.2.2.2.2.2.2.2.2.2.2.2.2.2.1 i ≤ 13) ∧ (∀ i : Nat, 0 ≤ s_2.2.2.2.2.2.2.2.2.2.2.2.2.2.2.2.2.1 i ∧ s_2.2.2.2.2.2.2.2.2.2.2.2.2.2.2.2.2.1 i ≤ 14) ∧ (∀ i : Nat, 0 ≤ s_2.2.2.2.2.2.2.2.2.2.2.2.2.2.2.2.2.2.1 i ∧ s_2.2.2.2.2.2.2.2.2.2.2.2.2.2.2.2.2.2.1 i ≤ 14) ∧ 0 ≤ s_2.1 ∧ s_2.1 ≤ 1 ∧ (-1) ≤ s_2.2.2.2.2.2.1 ∧ s_2.2.2.2.2.2.1 ≤ 13 ∧ (-1) ≤ s_2.2.2.2.2.2.2.1 ∧ s_2.2.2.2.2.2.2.1 ≤ 3 ∧ 0 ≤ s_2.2.2.2.2.2.2.2.1 ∧ s_2.2.2.2.2.2.2.2.1 ≤ 1 ∧ 0 ≤ s_2.2.2.2.2.2.2.2.2.1 ∧ s_2.2.2.2.2.2.2.2.2.1 ≤ 1 ∧ 0 ≤ s_2.2.2.2.2.2.2.2.2.2.1 ∧ s_2.2.2.2.2.2.2.2.2.2.1 ≤ 28 ∧ s_2.1 ≤ v3_0 ∧ v1_2 ≤ s_2.2.2.2.2.2.2.2.1) (fun s_2 Hj_2 => ?_) (fun j_2 hj_2 => ?_)
  · obtain ⟨s_2_0, s_2_1, s_2_2, s_2_3, s_2_4, s_2_5, s_2_6, s_2_7, s_2_8, s_2_9, s_2_10, s_2_11, s_2_12, s_2_13, s_2_14, s_2_15, s_2_16, s_2_17, s_2_18, s_2_19⟩ := s_2
    try dsimp only at Hj_2
    obtain ⟨Hj_2_0, Hj_2_1, Hj_2_2, Hj_2_3, Hj_2_4, Hj_2_5, Hj_2_6, Hj_2_7, Hj_2_8, Hj_2_9, Hj_2_10, Hj_2_11, Hj_2_12, Hj_2_13, Hj_2_14, Hj_2_15, Hj_2_16, Hj_2_17⟩ := Hj_2
    refine zw_if (fun c3 => ?_) (fun c3 => ?_)
    · refine zw_zb0 (sf_X11_refuse 2 f35) (fun o_4 ho_4 => ?_)
      obtain ⟨o_4_0, o_4_1⟩ := o_4
      try dsimp only at ho_4
      obtain ⟨ho_4_0, ho_4_1⟩ := ho_4
      refine zw_some ?_
      first | exact True.intro | ((try dsimp only); (repeat' apply And.intro) <;> first | with_reducible assumption | ((try clear hj_2); first | lia | grind [zu_at, zu_atL, zvn]))
    refine zw_zb0 (sf_X9_priceOf v2_0 v2_5 v3_0 f12 f10 s_2_12 f20 (by first | with_reducible assumption | exact ⟨by with_reducible assumption, by with_reducible assumption⟩ | ((try clear hj_2); first | lia | grind [zu_at, zu_atL, zvn])) (by first | with_reducible assumption | exact ⟨by with_reducible assumption, by with_reducible assumption⟩ | ((try clear hj_2); first | lia | grind [zu_at, zu_atL, zvn])) (by first | with_reducible assumption | exact ⟨by with_reducible assumption, by with_reducible assumption⟩ | ((try clear hj_2); first | lia | grind [zu_at, zu_atL, zvn]))) (fun o_8 ho_8 => ?_)
    refine zw_some ?_
    first | exact True.intro | ((try dsimp only); (repeat' apply And.intro) <;> first | with_reducible assumption | ((try clear hj_2); first | lia | grind [zu_at, zu_atL, zvn]))
  refine zw_zj (fun s_12 => (∀ i : Nat, 0 ≤ s_12.2.2.2.2.2.2.2.1 i ∧ s_12.2.2.2.2.2.2.2.1 i ≤ 1) ∧ (∀ i : Nat, 0 ≤ s_12.2.2.2.2.2.2.2.2.1 i ∧ s_12.2.2.2.2.2.2.2.2.1 i ≤ 13) ∧ (∀ i : Nat, 0 ≤ s_12.2.2.2.2.2.2.2.2.2.1 i ∧ s_12.2.2.2.2.2.2.2.2.2.1 i ≤ 14) ∧ (∀ i : Nat, 0 ≤ s_12.2.2.2.2.2.2.2.2.2.2.1 i ∧ s_12.2.2.2.2.2.2.2.2.2.2.1 i ≤ 14) ∧ 0 ≤ s_12.2.2.1 ∧ s_12.2.2.1 ≤ 1 ∧ 0 ≤ s_12.2.2.2.1 ∧ s_12.2.2.2.1 ≤ 1 ∧ 0 ≤ s_12.2.2.2.2.1 ∧ s_12.2.2.2.2.1 ≤ 28 ∧ v1_2 ≤ s_12.2.2.1 ∧ s_12.2.2.2.1 ≤ v1_3) (fun s_12 Hj_12 => ?_) (fun j_12 hj_12 => ?_)
  · obtain ⟨s_12_0, s_12_1, s_12_2, s_12_3, s_12_4, s_12_5, s_12_6, s_12_7, s_12_8, s_12_9, s_12_10, s_12_11, s_12_12⟩ := s_12
    try dsimp only at Hj_12
    obtain ⟨Hj_12_0, Hj_12_1, Hj_12_2, Hj_12_3, Hj_12_4, Hj_12_5, Hj_12_6, Hj_12_7, Hj_12_8, Hj_12_9, Hj_12_10, Hj_12_11⟩ := Hj_12
    refine zw_if (fun c4 => ?_) (fun c4 => ?_)
    · refine zw_zb0 (sf_X11_takeSingle v2_0 v2_5 v3_0 v4_0 v4_2 v1_12 v1_13 v1_14 v1_15 f24 f25 f12 f10 f20 f7 s_12_5 s_12_6 f5 f11 s_12_12 f14 f16 f17 f18 f19 (by first | with_reducible assumption | exact ⟨by with_reducible assumption, by with_reducible assumption⟩ | ((try clear hj_2); (try clear hj_12); first | lia | grind [zu_at, zu_atL, zvn])) (by first | with_reducible assumption | exact ⟨by with_reducible assumption, by with_reducible assumption⟩ | ((try clear hj_2); (try clear hj_12); first | lia | grind [zu_at, zu_atL, zvn])) (by first | with_reducible assumption | exact ⟨by with_reducible assumption, by with_reducible assumption⟩ | ((try clear hj_2); (try clear hj_12); first | lia | grind [zu_at, zu_atL, zvn])) (by first | with_reducible assumption | exact ⟨by with_reducible assumption, by with_reducible assumption⟩ | ((try clear hj_2); (try clear hj_12); first | lia | grind [zu_at, zu_atL, zvn])) (by first | with_reducible assumption | exact ⟨by with_reducible assumption, by with_reducible assumption⟩ | ((try clear hj_2); (try clear hj_12); first | lia | grind [zu_at, zu_atL, zvn])) (by first | with_reducible assumption | exact ⟨by with_reducible assumption, by with_reducible assumption⟩ | ((try clear hj_2); (try clear hj_12); first | lia | grind [zu_at, zu_atL, zvn])) (by first | with_reducible assumption | exact ⟨by with_reducible assumption, by with_reducible assumption⟩ | ((try clear hj_2); (try clear hj_12); first | lia | grind [zu_at, zu_atL, zvn]))) (fun o_14 ho_14 => ?_)
      obtain ⟨o_14_0, o_14_1, o_14_2, o_14_3, o_14_4, o_14_5, o_14_6, o_14_7, o_14_8, o_14_9⟩ := o_14
      try dsimp only at ho_14
      obtain ⟨ho_14_0, ho_14_1, ho_14_2, ho_14_3, ho_14_4, ho_14_5, ho_14_6, ho_14_7, ho_14_8, ho_14_9, ho_14_10, ho_14_11, ho_14_12⟩ := ho_14
      exact hj_2 _ (by first | exact True.intro | ((try dsimp only); (repeat' apply And.intro) <;> first | with_reducible assumption | ((try clear hj_2); (try clear hj_12); first | lia | grind [zu_at, zu_atL, zvn])))
    exact hj_2 _ (by first | exact True.intro | ((try dsimp only); (repeat' apply And.intro) <;> first | with_reducible assumption | ((try clear hj_2); (try clear hj_12); first | lia | grind [zu_at, zu_atL, zvn])))
  refine zw_if (fun c5 => ?_) (fun c5 => ?_)
  · refine zw_zb0 (sf_X3_goByHalves v1_2 v1_3 v1_8 v1_10 v1_11 v2_0 v2_5 v3_0 v4_0 v4_2 f5 f6 f7 f8 v9_1 v9_2 f10 f11 f12 f13 f14 f16 f17 f18 f19 f20 f21 f22 f23 (by first | with_reducible assumption | exact ⟨by with_reducible assumption, by with_reducible assumption⟩ | ((try clear hj_2); (try clear hj_12); first | lia | grind [zu_at, zu_atL, zvn])) (by first | with_reducible assumption | exact ⟨by with_reducible assumption, by with_reducible assumption⟩ | ((try clear hj_2); (try clear hj_12); first | lia | grind [zu_at, zu_atL, zvn])) (by first | with_reducible assumption | exact ⟨by with_reducible assumption, by with_reducible assumption⟩ | ((try clear hj_2); (try clear hj_12); first | lia | grind [zu_at, zu_atL, zvn])) (by first | with_reducible assumption | exact ⟨by with_reducible assumption, by with_reducible assumption⟩ | ((try clear hj_2); (try clear hj_12); first | lia | grind [zu_at, zu_atL, zvn])) (by first | with_reducible assumption | exact ⟨by with_reducible assumption, by with_reducible assumption⟩ | ((try clear hj_2); (try clear hj_12); first | lia | grind [zu_at, zu_atL, zvn])) (by first | with_reducible assumption | exact ⟨by with_reducible assumption, by with_reducible assumption⟩ | ((try clear hj_2); (try clear hj_12); first | lia | grind [zu_at, zu_atL, zvn])) (by first | with_reducible assumption | exact ⟨by with_reducible assumption, by with_reducible assumption⟩ | ((try clear hj_2); (try clear hj_12); first | lia | grind [zu_at, zu_atL, zvn])) (by first | with_reducible assumption | exact ⟨by with_reducible assumption, by with_reducible assumption⟩ | ((try clear hj_2); (try clear hj_12); first | lia | grind [zu_at, zu_atL, zvn])) (by first | with_reducible assumption | exact ⟨by with_reducible assumption, by with_reducible assumption⟩ | ((try clear hj_2); (try clear hj_12); first | lia | grind [zu_at, zu_atL, zvn])) (by first | with_reducible assumption | exact ⟨by with_reducible assumption, by with_reducible assumption⟩ | ((try clear hj_2); (try clear hj_12); first | lia | grind [zu_at, zu_atL, zvn])) (by first | with_reducible assumption | exact ⟨by with_reducible assumption, by with_reducible assumption⟩ | ((try clear hj_2); (try clear hj_12); first | lia | grind [zu_at, zu_atL, zvn])) (by first | with_reducible assumption | exact ⟨by with_reducible assumption, by with_reducible assumption⟩ | ((try clear hj_2); (try clear hj_12); first | lia | grind [zu_at, zu_atL, zvn]))) (fun o_19 ho_19 => ?_)
    obtain ⟨o_19_0, o_19_1, o_19_2, o_19_3, o_19_4, o_19_5, o_19_6, o_19_7, o_19_8, o_19_9, o_19_10, o_19_11, o_19_12, o_19_13⟩ := o_19
    try dsimp only at ho_19
    obtain ⟨ho_19_0, ho_19_1, ho_19_2, ho_19_3, ho_19_4, ho_19_5, ho_19_6, ho_19_7, ho_19_8, ho_19_9, ho_19_10, ho_19_11, ho_19_12, ho_19_13, ho_19_14, ho_19_15, ho_19_16, ho_19_17, ho_19_18, ho_19_19⟩ := ho_19
    refine zw_if (fun c6 => ?_) (fun c6 => ?_)
    · exact hj_12 _ (by first | exact True.intro | ((try dsimp only); (repeat' apply And.intro) <;> first | with_reducible assumption | ((try clear hj_2); (try clear hj_12); first | lia | grind [zu_at, zu_atL, zvn])))
    refine zw_zb0 (sf_X11_copyChoice o_19_6 f24) (fun o_24 ho_24 => ?_)
    exact hj_2 _ (by first | exact True.intro | ((try dsimp only); (repeat' apply And.intro) <;> first | with_reducible assumption | ((try clear hj_2); (try clear hj_12); first | lia | grind [zu_at, zu_atL, zvn])))
  exact hj_12 _ (by first | exact True.intro | ((try dsimp only); (repeat' apply And.intro) <;> first | with_reducible assumption | ((try clear hj_2); (try clear hj_12); first | lia | grind [zu_at, zu_atL, zvn])))
set_option maxHeartbeats 4000000 in
set_option maxRecDepth 100000 in
theorem sf_X11_front (p1 : Int32) (p2 : Int32) (p3 : Int32) (v1_0 : Int32) (v1_5 : Int32) (v2_0 : Int32) (f3 : Nat → Int32) (v4_2 : Int32) (v4_3 : Int32) (v4_6 : Int32) (v4_7 : Int32) (v4_8 : Int32) (v4_9 : Int32) (v4_10 : Int32) (v5_0 : Int32) (v5_1 : Int32) (v5_2 : Int32) (n6 : Nat) (f6 : Nat → Int32) (n7 : Nat) (f7 : Nat → Int32) (n8 : Nat) (f8 : Nat → Int32) (n9 : Nat) (f9 : Nat → Int32) (n10 : Nat) (f10 : Nat → Int32) (f11 : Nat → Int32) (f12 : Nat → Int32) (v13_1 : Int32) (v13_2 : Int32) (f14 : Nat → Int32) (f15 : Nat → Int32) (f16 : Nat → Int32) (f17 : Nat → Int32) (f18 : Nat → Int64) (f19 : Nat → Int32) (f21 : Nat → Int64) (f22 : Nat → Int64) (f23 : Nat → Int32) (f24 : Nat → Int32) (h_v1_0 : 0 ≤ v1_0 ∧ v1_0 ≤ 4) (h_v2_0 : 0 ≤ v2_0 ∧ v2_0 ≤ 14) (h_v4_2 : 0 ≤ v4_2 ∧ v4_2 ≤ 1) (h_v4_3 : 0 ≤ v4_3 ∧ v4_3 ≤ 14) (h_v4_6 : 0 ≤ v4_6 ∧ v4_6 ≤ 1024) (h_v4_10 : 0 ≤ v4_10 ∧ v4_10 ≤ 1024) (h_v5_0 : 0 ≤ v5_0 ∧ v5_0 ≤ 14) (h_v5_1 : 0 ≤ v5_1 ∧ v5_1 ≤ 14) (h_v5_2 : 0 ≤ v5_2 ∧ v5_2 ≤ 1) (h_n6 : n6 ≤ 1024) (hN_n6 : 0 ≤ Int32.ofNat n6 ∧ Int32.ofNat n6 ≤ 1024) (h_n7 : n7 ≤ 14336) (hN_n7 : 0 ≤ Int32.ofNat n7 ∧ Int32.ofNat n7 ≤ 14336) (h_n8 : n8 ≤ 1024) (hN_n8 : 0 ≤ Int32.ofNat n8 ∧ Int32.ofNat n8 ≤ 1024) (h_n9 : n9 ≤ 1024) (hN_n9 : 0 ≤ Int32.ofNat n9 ∧ Int32.ofNat n9 ≤ 1024) (h_n10 : n10 ≤ 1024) (hN_n10 : 0 ≤ Int32.ofNat n10 ∧ Int32.ofNat n10 ≤ 1024) (h_f14 : (∀ i : Nat, 0 ≤ f14 i ∧ f14 i ≤ 13)) (hr_0 : v4_10 ≤ (Int32.ofNat n9)) (hr_1 : v4_10 ≤ (Int32.ofNat n8)) (hr_2 : v4_10 ≤ (Int32.ofNat n10)) (hr_3 : v4_6 ≤ (Int32.ofNat n6)) (hr_4 : (Int32.ofNat n6) ≤ (Int32.ofNat n9)) (hr_5 : (Int32.ofNat n6) ≤ (Int32.ofNat n8)) (hr_6 : (Int32.ofNat n6) ≤ (Int32.ofNat n10)) (hr_7 : (Int32.ofNat n9) ≤ (Int32.ofNat n6)) (hr_8 : (Int32.ofNat n8) ≤ (Int32.ofNat n6)) (hr_9 : (Int32.ofNat n10) ≤ (Int32.ofNat n6)) : zw (fn_X11_front p1 p2 p3 v1_0 v1_5 v2_0 f3 v4_2 v4_3 v4_6 v4_7 v4_8 v4_9 v4_10 v5_0 v5_1 v5_2 n6 f6 n7 f7 n8 f8 n9 f9 n10 f10 f11 f12 v13_1 v13_2 f14 f15 f16 f17 f18 f19 f21 f22 f23 f24) (fun r => 0 ≤ r.2.1 ∧ r.2.1 ≤ 1024 ∧ 0 ≤ r.2.2.1 ∧ r.2.2.1 ≤ 1 ∧ 0 ≤ r.2.2.2.1 ∧ r.2.2.2.1 ≤ 14 ∧ 0 ≤ r.2.2.2.2.1 ∧ r.2.2.2.2.1 ≤ 1024 ∧ r.2.2.2.2.2.2.2.2.2.1 ≤ 1024 ∧ 0 ≤ Int32.ofNat r.2.2.2.2.2.2.2.2.2.1 ∧ Int32.ofNat r.2.2.2.2.2.2.2.2.2.1 ≤ 1024 ∧ r.2.2.2.2.2.2.2.2.2.2.2.1 ≤ 14336 ∧ 0 ≤ Int32.ofNat r.2.2.2.2.2.2.2.2.2.2.2.1 ∧ Int32.ofNat r.2.2.2.2.2.2.2.2.2.2.2.1 ≤ 14336 ∧ r.2.2.2.2.2.2.2.2.2.2.2.2.2.1 ≤ 1024 ∧ 0 ≤ Int32.ofNat r.2.2.2.2.2.2.2.2.2.2.2.2.2.1 ∧ Int32.ofNat r.2.2.2.2.2.2.2.2.2.2.2.2.2.1 ≤ 1024 ∧ r.2.2.2.2.2.2.2.2.2.2.2.2.2.2.2.1 ≤ 1024 ∧ 0 ≤ Int32.ofNat r.2.2.2.2.2.2.2.2.2.2.2.2.2.2.2.1 ∧ Int32.ofNat r.2.2.2.2.2.2.2.2.2.2.2.2.2.2.2.1 ≤ 1024 ∧ r.2.2.2.2.2.2.2.2.2.2.2.2.2.2.2.2.2.1 ≤ 1024 ∧ 0 ≤ Int32.ofNat r.2.2.2.2.2.2.2.2.2.2.2.2.2.2.2.2.2.1 ∧ Int32.ofNat r.2.2.2.2.2.2.2.2.2.2.2.2.2.2.2.2.2.1 ≤ 1024 ∧ r.2.1 ≤ (Int32.ofNat r.2.2.2.2.2.2.2.2.2.2.2.2.2.2.2.1) ∧ r.2.1 ≤ (Int32.ofNat r.2.2.2.2.2.2.2.2.2.2.2.2.2.1) ∧ r.2.1 ≤ (Int32.ofNat r.2.2.2.2.2.2.2.2.2.2.2.2.2.2.2.2.2.1) ∧ r.2.2.2.2.1 ≤ (Int32.ofNat r.2.2.2.2.2.2.2.2.2.1) ∧ (Int32.ofNat r.2.2.2.2.2.2.2.2.2.1) ≤ (Int32.ofNat r.2.2.2.2.2.2.2.2.2.2.2.2.2.2.2.1) ∧ (Int32.ofNat r.2.2.2.2.2.2.2.2.2.1) ≤ (Int32.ofNat r.2.2.2.2.2.2.2.2.2.2.2.2.2.1) ∧ (Int32.ofNat r.2.2.2.2.2.2.2.2.2.1) ≤ (Int32.ofNat r.2.2.2.2.2.2.2.2.2.2.2.2.2.2.2.2.2.1) ∧ (Int32.ofNat r.2.2.2.2.2.2.2.2.2.2.2.2.2.2.2.1) ≤ (Int32.ofNat r.2.2.2.2.2.2.2.2.2.1) ∧ (Int32.ofNat r.2.2.2.2.2.2.2.2.2.2.2.2.2.1) ≤ (Int32.ofNat r.2.2.2.2.2.2.2.2.2.1) ∧ (Int32.ofNat r.2.2.2.2.2.2.2.2.2.2.2.2.2.2.2.2.2.1) ≤ (Int32.ofNat r.2.2.2.2.2.2.2.2.2.1)) := by
  unfold fn_X11_front
  refine zw_zb0 (sf_X9_isAnswer p1 v2_0 f3 (by first | with_reducible assumption | exact ⟨by with_reducible assumption, by with_reducible assumption⟩ | first | lia | grind [zu_at, zu_atL, zvn])) (fun o_1 ho_1 => ?_)
  obtain ⟨ho_1_0, ho_1_1, ho_1_2, ho_1_3, ho_1_4, ho_1_5⟩ := ho_1
  refine zw_if (fun c1 => ?_) (fun c1 => ?_)
  · refine zw_some ?_
    first | exact True.intro | ((try dsimp only); (repeat' apply And.intro) <;> first | with_reducible assumption | first | lia | grind [zu_at, zu_atL, zvn])
  refine zw_zb0 (sf_X1_search v4_2 v4_3 v4_6 v4_7 v4_8 v1_0 v1_5 v2_0 v5_0 v5_1 v5_2 f3 n6 f6 n7 f7 n8 f8 n9 f9 n10 f10 f11 f12 v13_1 v13_2 f14 f15 f16 f17 f18 f19 f21 f22 f23 f24 (by first | with_reducible assumption | exact ⟨by with_reducible assumption, by with_reducible assumption⟩ | first | lia | grind [zu_at, zu_atL, zvn]) (by first | with_reducible assumption | exact ⟨by with_reducible assumption, by with_reducible assumption⟩ | first | lia | grind [zu_at, zu_atL, zvn]) (by first | with_reducible assumption | exact ⟨by with_reducible assumption, by with_reducible assumption⟩ | first | lia | grind [zu_at, zu_atL, zvn]) (by first | with_reducible assumption | exact ⟨by with_reducible assumption, by with_reducible assumption⟩ | first | lia | grind [zu_at, zu_atL, zvn]) (by first | with_reducible assumption | exact ⟨by with_reducible assumption, by with_reducible assumption⟩ | first | lia | grind [zu_at, zu_atL, zvn]) (by first | with_reducible assumption | exact ⟨by with_reducible assumption, by with_reducible assumption⟩ | first | lia | grind [zu_at, zu_atL, zvn]) (by first | with_reducible assumption | exact ⟨by with_reducible assumption, by with_reducible assumption⟩ | first | lia | grind [zu_at, zu_atL, zvn]) (by first | with_reducible assumption | exact ⟨by with_reducible assumption, by with_reducible assumption⟩ | first | lia | grind [zu_at, zu_atL, zvn]) (by first | with_reducible assumption | exact ⟨by with_reducible assumption, by with_reducible assumption⟩ | first | lia | grind [zu_at, zu_atL, zvn]) (by first | with_reducible assumption | exact ⟨by with_reducible assumption, by with_reducible assumption⟩ | first | lia | grind [zu_at, zu_atL, zvn]) (by first | with_reducible assumption | exact ⟨by with_reducible assumption, by with_reducible assumption⟩ | first | lia | grind [zu_at, zu_atL, zvn]) (by first | with_reducible assumption | exact ⟨by with_reducible assumption, by with_reducible assumption⟩ | first | lia | grind [zu_at, zu_atL, zvn]) (by first | with_reducible assumption | exact ⟨by with_reducible assumption, by with_reducible assumption⟩ | first | lia | grind [zu_at, zu_atL, zvn]) (by first | with_reducible assumption | exact ⟨by with_reducible assumption, by with_reducible assumption⟩ | first | lia | grind [zu_at, zu_atL, zvn]) (by first | with_reducible assumption | exact ⟨by with_reducible assumption, by with_reducible assumption⟩ | first | lia | grind [zu_at, zu_atL, zvn]) (by first | with_reducible assumption | exact ⟨by with_reducible assumption, by with_reducible assumption⟩ | first | lia | grind [zu_at, zu_atL, zvn]) (by first | with_reducible assumption | exact ⟨by with_reducible assumption, by with_reducible assumption⟩ | first | lia | grind [zu_at, zu_atL, zvn]) (by first | with_reducible assumption | exact ⟨by with_reducible assumption, by with_reducible assumption⟩ | first | lia | grind [zu_at, zu_atL, zvn]) (by first | with_reducible assumption | exact ⟨by with_reducible assumption, by with_reducible assumption⟩ | first | lia | grind [zu_at, zu_atL, zvn]) (by first | with_reducible assumption | exact ⟨by with_reducible assumption, by with_reducible assumption⟩ | first | lia | grind [zu_at, zu_atL, zvn]) (by first | with_reducible assumption | exact ⟨by with_reducible assumption, by with_reducible assumption⟩ | first | lia | grind [zu_at, zu_atL, zvn]) (by first | with_reducible assumption | exact ⟨by with_reducible assumption, by with_reducible assumption⟩ | first | lia | grind [zu_at, zu_atL, zvn]) (by first | with_reducible assumption | exact ⟨by with_reducible assumption, by with_reducible assumption⟩ | first | lia | grind [zu_at, zu_atL, zvn]) (by first | with_reducible assumption | exact ⟨by with_reducible assumption, by with_reducible assumption⟩ | first | lia | grind [zu_at, zu_atL, zvn]) (by first | with_reducible assumption | exact ⟨by with_reducible assumption, by with_reducible assumption⟩ | first | lia | grind [zu_at, zu_atL, zvn]) (by first | with_reducible assumption | exact ⟨by with_reducible assumption, by with_reducible assumption⟩ | first | lia | grind [zu_at, zu_atL, zvn])) (fun o_6 ho_6 => ?_)
  obtain ⟨o_6_0, o_6_1, o_6_2, o_6_3, o_6_4, o_6_5, o_6_6, o_6_7, o_6_8, o_6_9, o_6_10, o_6_11, o_6_12, o_6_13, o_6_14, o_6_15, o_6_16, o_6_17, o_6_18, o_6_19⟩ := o_6
  try dsimp only at ho_6
  obtain ⟨ho_6_0, ho_6_1, ho_6_2, ho_6_3, ho_6_4, ho_6_5, ho_6_6, ho_6_7, ho_6_8, ho_6_9, ho_6_10, ho_6_11, ho_6_12, ho_6_13, ho_6_14, ho_6_15, ho_6_16, ho_6_17, ho_6_18, ho_6_19, ho_6_20, ho_6_21, ho_6_22, ho_6_23, ho_6_24, ho_6_25, ho_6_26, ho_6_27, ho_6_28, ho_6_29, ho_6_30⟩ := ho_6
  refine zw_if (fun c2 => ?_) (fun c2 => ?_)
  · refine zw_some ?_
    first | exact True.intro | ((try dsimp only); (repeat' apply And.intro) <;> first | with_reducible assumption | first | lia | grind [zu_at, zu_atL, zvn])
  refine zw_zb0 (sf_X1_drawFront p1 o_6_2 o_6_3 v4_9 v4_10 v2_0 f3 o_6_9 o_6_8 o_6_7 o_6_6 o_6_13 o_6_12 o_6_11 o_6_10 o_6_15 o_6_14 (by first | with_reducible assumption | exact ⟨by with_reducible assumption, by with_reducible assumption⟩ | first | lia | grind [zu_at, zu_atL, zvn]) (by first | with_reducible assumption | exact ⟨by with_reducible assumption, by with_reducible assumption⟩ | first | lia | grind [zu_at, zu_atL, zvn]) (by first | with_reducible assumption | exact ⟨by with_reducible assumption, by with_reducible assumption⟩ | first | lia | grind [zu_at, zu_atL, zvn]) (by first | with_reducible assumption | exact ⟨by with_reducible assumption, by with_reducible assumption⟩ | first | lia | grind [zu_at, zu_atL, zvn]) (by first | with_reducible assumption | exact ⟨by with_reducible assumption, by with_reducible assumption⟩ | first | lia | grind [zu_at, zu_atL, zvn]) (by first | with_reducible assumption | exact ⟨by with_reducible assumption, by with_reducible assumption⟩ | first | lia | grind [zu_at, zu_atL, zvn]) (by first | with_reducible assumption | exact ⟨by with_reducible assumption, by with_reducible assumption⟩ | first | lia | grind [zu_at, zu_atL, zvn]) (by first | with_reducible assumption | exact ⟨by with_reducible assumption, by with_reducible assumption⟩ | first | lia | grind [zu_at, zu_atL, zvn]) (by first | with_reducible assumption | exact ⟨by with_reducible assumption, by with_reducible assumption⟩ | first | lia | grind [zu_at, zu_atL, zvn]) (by first | with_reducible assumption | exact ⟨by with_reducible assumption, by with_reducible assumption⟩ | first | lia | grind [zu_at, zu_atL, zvn]) (by first | with_reducible assumption | exact ⟨by with_reducible assumption, by with_reducible assumption⟩ | first | lia | grind [zu_at, zu_atL, zvn]) (by first | with_reducible assumption | exact ⟨by with_reducible assumption, by with_reducible assumption⟩ | first | lia | grind [zu_at, zu_atL, zvn]) (by first | with_reducible assumption | exact ⟨by with_reducible assumption, by with_reducible assumption⟩ | first | lia | grind [zu_at, zu_atL, zvn]) (by first | with_reducible assumption | exact ⟨by with_reducible assumption, by with_reducible assumption⟩ | first | lia | grind [zu_at, zu_atL, zvn]) (by first | with_reducible assumption | exact ⟨by with_reducible assumption, by with_reducible assumption⟩ | first | lia | grind [zu_at, zu_atL, zvn]) (by first | with_reducible assumption | exact ⟨by with_reducible assumption, by with_reducible assumption⟩ | first | lia | grind [zu_at, zu_atL, zvn]) (by first | with_reducible assumption | exact ⟨by with_reducible assumption, by with_reducible assumption⟩ | first | lia | grind [zu_at, zu_atL, zvn]) (by first | with_reducible assumption | exact ⟨by with_reducible assumption, by with_reducible assumption⟩ | first | lia | grind [zu_at, zu_atL, zvn]) (by first | with_reducible assumption | exact ⟨by with_reducible assumption, by with_reducible assumption⟩ | first | lia | grind [zu_at, zu_atL, zvn]) (by first | with_reducible assumption | exact ⟨by with_reducible assumption, by with_reducible assumption⟩ | first | lia | grind [zu_at, zu_atL, zvn]) (by first | with_reducible assumption | exact ⟨by with_reducible assumption, by with_reducible assumption⟩ | first | lia | grind [zu_at, zu_atL, zvn]) (by first | with_reducible assumption | exact ⟨by with_reducible assumption, by with_reducible assumption⟩ | first | lia | grind [zu_at, zu_atL, zvn]) (by first | with_reducible assumption | exact ⟨by with_reducible assumption, by with_reducible assumption⟩ | first | lia | grind [zu_at, zu_atL, zvn]) (by first | with_reducible assumption | exact ⟨by with_reducible assumption, by with_reducible assumption⟩ | first | lia | grind [zu_at, zu_atL, zvn])) (fun o_11 ho_11 => ?_)
  obtain ⟨o_11_0, o_11_1, o_11_2, o_11_3, o_11_4⟩ := o_11
  try dsimp only at ho_11
  obtain ⟨ho_11_0, ho_11_1, ho_11_2, ho_11_3, ho_11_4⟩ := ho_11
  refine zw_if (fun c3 => ?_) (fun c3 => ?_)
  · refine zw_if (fun c4 => ?_) (fun c4 => ?_)
    · refine zw_some ?_
      first | exact True.intro | ((try dsimp only); (repeat' apply And.intro) <;> first | with_reducible assumption | first | lia | grind [zu_at, zu_atL, zvn])
    refine zw_some ?_
    first | exact True.intro | ((try dsimp only); (repeat' apply And.intro) <;> first | with_reducible assumption | first | lia | grind [zu_at, zu_atL, zvn])
  refine zw_if (fun c5 => ?_) (fun c5 => ?_)
  · refine zw_some ?_
    first | exact True.intro | ((try dsimp only); (repeat' apply And.intro) <;> first | with_reducible assumption | first | lia | grind [zu_at, zu_atL, zvn])
  refine zw_if (fun c6 => ?_) (fun c6 => ?_)
  · refine zw_if (fun c7 => ?_) (fun c7 => ?_)
    · refine zw_zgN (by (try dsimp only); first | lia | grind [zu_at, zu_atL, zvn]) (by (try dsimp only); first | lia | grind [zu_at, zu_atL, zvn]) ?_
      refine zw_some ?_
      first | exact True.intro | ((try dsimp only); (repeat' apply And.intro) <;> first | with_reducible assumption | first | lia | grind [zu_at, zu_atL, zvn])
    refine zw_if (fun c8 => ?_) (fun c8 => ?_)
    · refine zw_zgN (by (try dsimp only); first | lia | grind [zu_at, zu_atL, zvn]) (by (try dsimp only); first | lia | grind [zu_at, zu_atL, zvn]) ?_
      refine zw_some ?_
      first | exact True.intro | ((try dsimp only); (repeat' apply And.intro) <;> first | with_reducible assumption | first | lia | grind [zu_at, zu_atL, zvn])
    refine zw_if (fun c9 => ?_) (fun c9 => ?_)
    · refine zw_zgN (by (try dsimp only); first | lia | grind [zu_at, zu_atL, zvn]) (by (try dsimp only); first | lia | grind [zu_at, zu_atL, zvn]) ?_
      refine zw_some ?_
      first | exact True.intro | ((try dsimp only); (repeat' apply And.intro) <;> first | with_reducible assumption | first | lia | grind [zu_at, zu_atL, zvn])
    refine zw_some ?_
    first | exact True.intro | ((try dsimp only); (repeat' apply And.intro) <;> first | with_reducible assumption | first | lia | grind [zu_at, zu_atL, zvn])
  refine zw_some ?_
  first | exact True.intro | ((try dsimp only); (repeat' apply And.intro) <;> first | with_reducible assumption | first | lia | grind [zu_at, zu_atL, zvn])
set_option maxHeartbeats 4000000 in
set_option maxRecDepth 100000 in
theorem sf_X11_least (p1 : Int32) (p2 : Int32) (v1_0 : Int32) (v1_5 : Int32) (v2_0 : Int32) (f3 : Nat → Int32) (v4_2 : Int32) (v4_3 : Int32) (v4_6 : Int32) (v4_7 : Int32) (v4_8 : Int32) (v5_0 : Int32) (v5_1 : Int32) (v5_2 : Int32) (n6 : Nat) (f6 : Nat → Int32) (n7 : Nat) (f7 : Nat → Int32) (n8 : Nat) (f8 : Nat → Int32) (n9 : Nat) (f9 : Nat → Int32) (n10 : Nat) (f10 : Nat → Int32) (f11 : Nat → Int32) (f12 : Nat → Int32) (v13_1 : Int32) (v13_2 : Int32) (f14 : Nat → Int32) (f15 : Nat → Int32) (f16 : Nat → Int32) (f17 : Nat → Int32) (f18 : Nat → Int64) (f19 : Nat → Int32) (f21 : Nat → Int64) (f22 : Nat → Int64) (f23 : Nat → Int32) (f24 : Nat → Int32) (h_v1_0 : 0 ≤ v1_0 ∧ v1_0 ≤ 4) (h_v2_0 : 0 ≤ v2_0 ∧ v2_0 ≤ 14) (h_v4_2 : 0 ≤ v4_2 ∧ v4_2 ≤ 1) (h_v4_3 : 0 ≤ v4_3 ∧ v4_3 ≤ 14) (h_v4_6 : 0 ≤ v4_6 ∧ v4_6 ≤ 1024) (h_v5_0 : 0 ≤ v5_0 ∧ v5_0 ≤ 14) (h_v5_1 : 0 ≤ v5_1 ∧ v5_1 ≤ 14) (h_v5_2 : 0 ≤ v5_2 ∧ v5_2 ≤ 1) (h_n6 : n6 ≤ 1024) (hN_n6 : 0 ≤ Int32.ofNat n6 ∧ Int32.ofNat n6 ≤ 1024) (h_n7 : n7 ≤ 14336) (hN_n7 : 0 ≤ Int32.ofNat n7 ∧ Int32.ofNat n7 ≤ 14336) (h_n8 : n8 ≤ 1024) (hN_n8 : 0 ≤ Int32.ofNat n8 ∧ Int32.ofNat n8 ≤ 1024) (h_n9 : n9 ≤ 1024) (hN_n9 : 0 ≤ Int32.ofNat n9 ∧ Int32.ofNat n9 ≤ 1024) (h_n10 : n10 ≤ 1024) (hN_n10 : 0 ≤ Int32.ofNat n10 ∧ Int32.ofNat n10 ≤ 1024) (h_f14 : (∀ i : Nat, 0 ≤ f14 i ∧ f14 i ≤ 13)) (hr_0 : v4_6 ≤ (Int32.ofNat n6)) (hr_1 : (Int32.ofNat n6) ≤ (Int32.ofNat n9)) (hr_2 : (Int32.ofNat n6) ≤ (Int32.ofNat n8)) (hr_3 : (Int32.ofNat n6) ≤ (Int32.ofNat n10)) (hr_4 : (Int32.ofNat n9) ≤ (Int32.ofNat n6)) (hr_5 : (Int32.ofNat n8) ≤ (Int32.ofNat n6)) (hr_6 : (Int32.ofNat n10) ≤ (Int32.ofNat n6)) : zw (fn_X11_least p1 p2 v1_0 v1_5 v2_0 f3 v4_2 v4_3 v4_6 v4_7 v4_8 v5_0 v5_1 v5_2 n6 f6 n7 f7 n8 f8 n9 f9 n10 f10 f11 f12 v13_1 v13_2 f14 f15 f16 f17 f18 f19 f21 f22 f23 f24) (fun r => 0 ≤ r.2.1 ∧ r.2.1 ≤ 1 ∧ 0 ≤ r.2.2.1 ∧ r.2.2.1 ≤ 14 ∧ 0 ≤ r.2.2.2.1 ∧ r.2.2.2.1 ≤ 1024 ∧ r.2.2.2.2.2.2.2.1 ≤ 1024 ∧ 0 ≤ Int32.ofNat r.2.2.2.2.2.2.2.1 ∧ Int32.ofNat r.2.2.2.2.2.2.2.1 ≤ 1024 ∧ r.2.2.2.2.2.2.2.2.2.1 ≤ 14336 ∧ 0 ≤ Int32.ofNat r.2.2.2.2.2.2.2.2.2.1 ∧ Int32.ofNat r.2.2.2.2.2.2.2.2.2.1 ≤ 14336 ∧ r.2.2.2.2.2.2.2.2.2.2.2.1 ≤ 1024 ∧ 0 ≤ Int32.ofNat r.2.2.2.2.2.2.2.2.2.2.2.1 ∧ Int32.ofNat r.2.2.2.2.2.2.2.2.2.2.2.1 ≤ 1024 ∧ r.2.2.2.2.2.2.2.2.2.2.2.2.2.1 ≤ 1024 ∧ 0 ≤ Int32.ofNat r.2.2.2.2.2.2.2.2.2.2.2.2.2.1 ∧ Int32.ofNat r.2.2.2.2.2.2.2.2.2.2.2.2.2.1 ≤ 1024 ∧ r.2.2.2.2.2.2.2.2.2.2.2.2.2.2.2.1 ≤ 1024 ∧ 0 ≤ Int32.ofNat r.2.2.2.2.2.2.2.2.2.2.2.2.2.2.2.1 ∧ Int32.ofNat r.2.2.2.2.2.2.2.2.2.2.2.2.2.2.2.1 ≤ 1024 ∧ r.2.2.2.1 ≤ (Int32.ofNat r.2.2.2.2.2.2.2.1) ∧ (Int32.ofNat r.2.2.2.2.2.2.2.1) ≤ (Int32.ofNat r.2.2.2.2.2.2.2.2.2.2.2.2.2.1) ∧ (Int32.ofNat r.2.2.2.2.2.2.2.1) ≤ (Int32.ofNat r.2.2.2.2.2.2.2.2.2.2.2.1) ∧ (Int32.ofNat r.2.2.2.2.2.2.2.1) ≤ (Int32.ofNat r.2.2.2.2.2.2.2.2.2.2.2.2.2.2.2.1) ∧ (Int32.ofNat r.2.2.2.2.2.2.2.2.2.2.2.2.2.1) ≤ (Int32.ofNat r.2.2.2.2.2.2.2.1) ∧ (Int32.ofNat r.2.2.2.2.2.2.2.2.2.2.2.1) ≤ (Int32.ofNat r.2.2.2.2.2.2.2.1) ∧ (Int32.ofNat r.2.2.2.2.2.2.2.2.2.2.2.2.2.2.2.1) ≤ (Int32.ofNat r.2.2.2.2.2.2.2.1) ∧ (Int32.ofNat n6) ≤ (Int32.ofNat r.2.2.2.2.2.2.2.1)) := by
  unfold fn_X11_least
  refine zw_zb0 (sf_X9_isAnswer p1 v2_0 f3 (by first | with_reducible assumption | exact ⟨by with_reducible assumption, by with_reducible assumption⟩ | first | lia | grind [zu_at, zu_atL, zvn])) (fun o_1 ho_1 => ?_)
  obtain ⟨ho_1_0, ho_1_1, ho_1_2, ho_1_3, ho_1_4, ho_1_5⟩ := ho_1
  refine zw_if (fun c1 => ?_) (fun c1 => ?_)
  · refine zw_some ?_
    first | exact True.intro | ((try dsimp only); (repeat' apply And.intro) <;> first | with_reducible assumption | first | lia | grind [zu_at, zu_atL, zvn])
  refine zw_zb0 (sf_X1_search v4_2 v4_3 v4_6 v4_7 v4_8 v1_0 v1_5 v2_0 v5_0 v5_1 v5_2 f3 n6 f6 n7 f7 n8 f8 n9 f9 n10 f10 f11 f12 v13_1 v13_2 f14 f15 f16 f17 f18 f19 f21 f22 f23 f24 (by first | with_reducible assumption | exact ⟨by with_reducible assumption, by with_reducible assumption⟩ | first | lia | grind [zu_at, zu_atL, zvn]) (by first | with_reducible assumption | exact ⟨by with_reducible assumption, by with_reducible assumption⟩ | first | lia | grind [zu_at, zu_atL, zvn]) (by first | with_reducible assumption | exact ⟨by with_reducible assumption, by with_reducible assumption⟩ | first | lia | grind [zu_at, zu_atL, zvn]) (by first | with_reducible assumption | exact ⟨by with_reducible assumption, by with_reducible assumption⟩ | first | lia | grind [zu_at, zu_atL, zvn]) (by first | with_reducible assumption | exact ⟨by with_reducible assumption, by with_reducible assumption⟩ | first | lia | grind [zu_at, zu_atL, zvn]) (by first | with_reducible assumption | exact ⟨by with_reducible assumption, by with_reducible assumption⟩ | first | lia | grind [zu_at, zu_atL, zvn]) (by first | with_reducible assumption | exact ⟨by with_reducible assumption, by with_reducible assumption⟩ | first | lia | grind [zu_at, zu_atL, zvn]) (by first | with_reducible assumption | exact ⟨by with_reducible assumption, by with_reducible assumption⟩ | first | lia | grind [zu_at, zu_atL, zvn]) (by first | with_reducible assumption | exact ⟨by with_reducible assumption, by with_reducible assumption⟩ | first | lia | grind [zu_at, zu_atL, zvn]) (by first | with_reducible assumption | exact ⟨by with_reducible assumption, by with_reducible assumption⟩ | first | lia | grind [zu_at, zu_atL, zvn]) (by first | with_reducible assumption | exact ⟨by with_reducible assumption, by with_reducible assumption⟩ | first | lia | grind [zu_at, zu_atL, zvn]) (by first | with_reducible assumption | exact ⟨by with_reducible assumption, by with_reducible assumption⟩ | first | lia | grind [zu_at, zu_atL, zvn]) (by first | with_reducible assumption | exact ⟨by with_reducible assumption, by with_reducible assumption⟩ | first | lia | grind [zu_at, zu_atL, zvn]) (by first | with_reducible assumption | exact ⟨by with_reducible assumption, by with_reducible assumption⟩ | first | lia | grind [zu_at, zu_atL, zvn]) (by first | with_reducible assumption | exact ⟨by with_reducible assumption, by with_reducible assumption⟩ | first | lia | grind [zu_at, zu_atL, zvn]) (by first | with_reducible assumption | exact ⟨by with_reducible assumption, by with_reducible assumption⟩ | first | lia | grind [zu_at, zu_atL, zvn]) (by first | with_reducible assumption | exact ⟨by with_reducible assumption, by with_reducible assumption⟩ | first | lia | grind [zu_at, zu_atL, zvn]) (by first | with_reducible assumption | exact ⟨by with_reducible assumption, by with_reducible assumption⟩ | first | lia | grind [zu_at, zu_atL, zvn]) (by first | with_reducible assumption | exact ⟨by with_reducible assumption, by with_reducible assumption⟩ | first | lia | grind [zu_at, zu_atL, zvn]) (by first | with_reducible assumption | exact ⟨by with_reducible assumption, by with_reducible assumption⟩ | first | lia | grind [zu_at, zu_atL, zvn]) (by first | with_reducible assumption | exact ⟨by with_reducible assumption, by with_reducible assumption⟩ | first | lia | grind [zu_at, zu_atL, zvn]) (by first | with_reducible assumption | exact ⟨by with_reducible assumption, by with_reducible assumption⟩ | first | lia | grind [zu_at, zu_atL, zvn]) (by first | with_reducible assumption | exact ⟨by with_reducible assumption, by with_reducible assumption⟩ | first | lia | grind [zu_at, zu_atL, zvn]) (by first | with_reducible assumption | exact ⟨by with_reducible assumption, by with_reducible assumption⟩ | first | lia | grind [zu_at, zu_atL, zvn]) (by first | with_reducible assumption | exact ⟨by with_reducible assumption, by with_reducible assumption⟩ | first | lia | grind [zu_at, zu_atL, zvn]) (by first | with_reducible assumption | exact ⟨by with_reducible assumption, by with_reducible assumption⟩ | first | lia | grind [zu_at, zu_atL, zvn])) (fun o_6 ho_6 => ?_)
  obtain ⟨o_6_0, o_6_1, o_6_2, o_6_3, o_6_4, o_6_5, o_6_6, o_6_7, o_6_8, o_6_9, o_6_10, o_6_11, o_6_12, o_6_13, o_6_14, o_6_15, o_6_16, o_6_17, o_6_18, o_6_19⟩ := o_6
  try dsimp only at ho_6
  obtain ⟨ho_6_0, ho_6_1, ho_6_2, ho_6_3, ho_6_4, ho_6_5, ho_6_6, ho_6_7, ho_6_8, ho_6_9, ho_6_10, ho_6_11, ho_6_12, ho_6_13, ho_6_14, ho_6_15, ho_6_16, ho_6_17, ho_6_18, ho_6_19, ho_6_20, ho_6_21, ho_6_22, ho_6_23, ho_6_24, ho_6_25, ho_6_26, ho_6_27, ho_6_28, ho_6_29, ho_6_30⟩ := ho_6
  refine zw_if (fun c2 => ?_) (fun c2 => ?_)
  · refine zw_some ?_
    first | exact True.intro | ((try dsimp only); (repeat' apply And.intro) <;> first | with_reducible assumption | first | lia | grind [zu_at, zu_atL, zvn])
  refine zw_zb0 (sf_X1_leastWithin p1 p2 o_6_2 o_6_3 v2_0 f3 o_6_7 o_6_6 o_6_9 o_6_8 (by first | with_reducible assumption | exact ⟨by with_reducible assumption, by with_reducible assumption⟩ | first | lia | grind [zu_at, zu_atL, zvn]) (by first | with_reducible assumption | exact ⟨by with_reducible assumption, by with_reducible assumption⟩ | first | lia | grind [zu_at, zu_atL, zvn]) (by first | with_reducible assumption | exact ⟨by with_reducible assumption, by with_reducible assumption⟩ | first | lia | grind [zu_at, zu_atL, zvn]) (by first | with_reducible assumption | exact ⟨by with_reducible assumption, by with_reducible assumption⟩ | first | lia | grind [zu_at, zu_atL, zvn]) (by first | with_reducible assumption | exact ⟨by with_reducible assumption, by with_reducible assumption⟩ | first | lia | grind [zu_at, zu_atL, zvn]) (by first | with_reducible assumption | exact ⟨by with_reducible assumption, by with_reducible assumption⟩ | first | lia | grind [zu_at, zu_atL, zvn]) (by first | with_reducible assumption | exact ⟨by with_reducible assumption, by with_reducible assumption⟩ | first | lia | grind [zu_at, zu_atL, zvn]) (by first | with_reducible assumption | exact ⟨by with_reducible assumption, by with_reducible assumption⟩ | first | lia | grind [zu_at, zu_atL, zvn])) (fun o_11 ho_11 => ?_)
  refine zw_some ?_
  first | exact True.intro | ((try dsimp only); (repeat' apply And.intro) <;> first | with_reducible assumption | first | lia | grind [zu_at, zu_atL, zvn])
set_option maxHeartbeats 4000000 in
set_option maxRecDepth 100000 in
theorem sf_X11_byteOf (j0 : Int64) (p1 : Int32) : zw (fn_X11_byteOf j0 p1) (fun r => True) := by
  unfold fn_X11_byteOf
  refine zw_some ?_
  first | exact True.intro | ((try dsimp only); (repeat' apply And.intro) <;> first | with_reducible assumption | first | lia | grind [zu_at, zu_atL, zvn])
set_option maxHeartbeats 4000000 in
set_option maxRecDepth 100000 in
theorem sf_X11_certificate (p1 : Int32) (v1_0 : Int32) (v2_0 : Int32) (v3_2 : Int32) (v4_1 : Int32) (v4_2 : Int32) (f5 : Nat → Int32) (f6 : Nat → Int32) (f7 : Nat → Int32) (f8 : Nat → Int32) (f9 : Nat → Int32) (f10 : Nat → Int64) (f11 : Nat → Int32) (f13 : Nat → Int64) (f14 : Nat → Int64) (f15 : Nat → Int32) (f16 : Nat → Int32) (h_v1_0 : 0 ≤ v1_0 ∧ v1_0 ≤ 4) (h_v2_0 : 0 ≤ v2_0 ∧ v2_0 ≤ 14) (h_v3_2 : 0 ≤ v3_2 ∧ v3_2 ≤ 1) (h_f5 : (∀ i : Nat, 0 ≤ f5 i ∧ f5 i ≤ 13)) : zw (fn_X11_certificate p1 v1_0 v2_0 v3_2 v4_1 v4_2 f5 f6 f7 f8 f9 f10 f11 f13 f14 f15 f16) (fun r => True) := by
  unfold fn_X11_certificate
  refine zw_if (fun c1 => ?_) (fun c1 => ?_)
  · refine zw_some ?_
    first | exact True.intro | ((try dsimp only); (repeat' apply And.intro) <;> first | with_reducible assumption | first | lia | grind [zu_at, zu_atL, zvn])
  refine zw_if (fun c2 => ?_) (fun c2 => ?_)
  · refine zw_some ?_
    first | exact True.intro | ((try dsimp only); (repeat' apply And.intro) <;> first | with_reducible assumption | first | lia | grind [zu_at, zu_atL, zvn])
  refine zw_zb0 (sf_X11_handPasses v1_0 v2_0 v3_2 v4_1 v4_2 f5 f6 f7 f8 f9 f10 f11 f13 f14 f15 f16 (by first | with_reducible assumption | exact ⟨by with_reducible assumption, by with_reducible assumption⟩ | first | lia | grind [zu_at, zu_atL, zvn]) (by first | with_reducible assumption | exact ⟨by with_reducible assumption, by with_reducible assumption⟩ | first | lia | grind [zu_at, zu_atL, zvn]) (by first | with_reducible assumption | exact ⟨by with_reducible assumption, by with_reducible assumption⟩ | first | lia | grind [zu_at, zu_atL, zvn]) (by first | with_reducible assumption | exact ⟨by with_reducible assumption, by with_reducible assumption⟩ | first | lia | grind [zu_at, zu_atL, zvn])) (fun o_3 ho_3 => ?_)
  obtain ⟨o_3_0, o_3_1, o_3_2, o_3_3⟩ := o_3
  try dsimp only at ho_3
  obtain ⟨ho_3_0, ho_3_1, ho_3_2, ho_3_3, ho_3_4, ho_3_5, ho_3_6⟩ := ho_3
  refine zw_if (fun c3 => ?_) (fun c3 => ?_)
  · refine zw_some ?_
    first | exact True.intro | ((try dsimp only); (repeat' apply And.intro) <;> first | with_reducible assumption | first | lia | grind [zu_at, zu_atL, zvn])
  have hdv := zdiv25 p1 (by lia) (by lia)
  refine zw_if (fun c4 => ?_) (fun c4 => ?_)
  · refine zw_zb0 (sf_X9_formatOf (p1 / 25) v2_0 f5 f6 (by first | with_reducible assumption | exact ⟨by with_reducible assumption, by with_reducible assumption⟩ | first | lia | grind [zu_at, zu_atL, zvn]) (by first | with_reducible assumption | exact ⟨by with_reducible assumption, by with_reducible assumption⟩ | first | lia | grind [zu_at, zu_atL, zvn])) (fun o_26 ho_26 => ?_)
    refine zw_some ?_
    first | exact True.intro | ((try dsimp only); (repeat' apply And.intro) <;> first | with_reducible assumption | first | lia | grind [zu_at, zu_atL, zvn])
  refine zw_if (fun c5 => ?_) (fun c5 => ?_)
  · refine zw_if (fun c6 => ?_) (fun c6 => ?_)
    · refine zw_zg32 14 (by decide) (by (try dsimp only); first | lia | grind [zu_at, zu_atL, zvn]) ?_
      refine zw_zb0 (sf_X11_byteOf (o_3_3 (p1 / 25).toNatClampNeg) ((p1 - ((p1 / 25) * 25)) - 17)) (fun o_12 ho_12 => ?_)
      refine zw_some ?_
      first | exact True.intro | ((try dsimp only); (repeat' apply And.intro) <;> first | with_reducible assumption | first | lia | grind [zu_at, zu_atL, zvn])
    refine zw_zg32 14 (by decide) (by (try dsimp only); first | lia | grind [zu_at, zu_atL, zvn]) ?_
    refine zw_zb0 (sf_X11_byteOf (f14 (p1 / 25).toNatClampNeg) ((p1 - ((p1 / 25) * 25)) - 9)) (fun o_17 ho_17 => ?_)
    refine zw_some ?_
    first | exact True.intro | ((try dsimp only); (repeat' apply And.intro) <;> first | with_reducible assumption | first | lia | grind [zu_at, zu_atL, zvn])
  refine zw_zg32 14 (by decide) (by (try dsimp only); first | lia | grind [zu_at, zu_atL, zvn]) ?_
  refine zw_zb0 (sf_X11_byteOf (f13 (p1 / 25).toNatClampNeg) ((p1 - ((p1 / 25) * 25)) - 1)) (fun o_22 ho_22 => ?_)
  refine zw_some ?_
  first | exact True.intro | ((try dsimp only); (repeat' apply And.intro) <;> first | with_reducible assumption | first | lia | grind [zu_at, zu_atL, zvn])
set_option maxHeartbeats 4000000 in
set_option maxRecDepth 100000 in
theorem sf_X11_check (v0_1 : Int32) (v2_0 : Int32) (v3_0 : Int32) (f4 : Nat → Int32) (v5_0 : Int32) (f6 : Nat → Int32) (f7 : Nat → Int32) (f8 : Nat → Int32) (f10 : Nat → Int64) (f11 : Nat → Int64) (f13 : Nat → Int64) (f14 : Nat → Int32) (f15 : Nat → Int32) (f16 : Nat → Int32) (f17 : Nat → Int32) (f18 : Nat → Int32) (f19 : Nat → Int32) (f20 : Nat → Int32) (h_v0_1 : 0 ≤ v0_1 ∧ v0_1 ≤ 1200) (h_v2_0 : 0 ≤ v2_0 ∧ v2_0 ≤ 4) (h_v3_0 : 0 ≤ v3_0 ∧ v3_0 ≤ 14) (h_v5_0 : 0 ≤ v5_0 ∧ v5_0 ≤ 14) (h_f8 : (∀ i : Nat, 0 ≤ f8 i ∧ f8 i ≤ 13)) : zw (fn_X11_check v0_1 v2_0 v3_0 f4 v5_0 f6 f7 f8 f10 f11 f13 f14 f15 f16 f17 f18 f19 f20) (fun r => 0 ≤ r.1 ∧ r.1 ≤ 1 ∧ 0 ≤ r.2.1 ∧ r.2.1 ≤ 1200 ∧ (-2) ≤ r.2.2.1 ∧ (-1) ≤ r.2.2.2.1 ∧ r.2.1 ≤ 0 ∧ r.2.2.1 ≤ 13 ∧ r.2.2.2.1 ≤ 6 ∧ r.2.1 = 0) := by
  unfold fn_X11_check
  refine zw_zb0 (sf_X0_holds v0_1 v2_0 v3_0 f4 v5_0 f6 f7 f8 f10 f11 f13 f14 f15 f16 f17 f18 f19 (by first | with_reducible assumption | exact ⟨by with_reducible assumption, by with_reducible assumption⟩ | first | lia | grind [zu_at, zu_atL, zvn]) (by first | with_reducible assumption | exact ⟨by with_reducible assumption, by with_reducible assumption⟩ | first | lia | grind [zu_at, zu_atL, zvn]) (by first | with_reducible assumption | exact ⟨by with_reducible assumption, by with_reducible assumption⟩ | first | lia | grind [zu_at, zu_atL, zvn]) (by first | with_reducible assumption | exact ⟨by with_reducible assumption, by with_reducible assumption⟩ | first | lia | grind [zu_at, zu_atL, zvn])) (fun o_1 ho_1 => ?_)
  obtain ⟨o_1_0, o_1_1, o_1_2, o_1_3, o_1_4, o_1_5, o_1_6⟩ := o_1
  try dsimp only at ho_1
  obtain ⟨ho_1_0, ho_1_1, ho_1_2, ho_1_3, ho_1_4, ho_1_5⟩ := ho_1
  refine zw_if (fun c1 => ?_) (fun c1 => ?_)
  · refine zw_zb0 (sf_X11_refuse 3 f20) (fun o_6 ho_6 => ?_)
    obtain ⟨o_6_0, o_6_1⟩ := o_6
    try dsimp only at ho_6
    obtain ⟨ho_6_0, ho_6_1⟩ := ho_6
    refine zw_some ?_
    first | exact True.intro | ((try dsimp only); (repeat' apply And.intro) <;> first | with_reducible assumption | first | lia | grind [zu_at, zu_atL, zvn])
  refine zw_some ?_
  first | exact True.intro | ((try dsimp only); (repeat' apply And.intro) <;> first | with_reducible assumption | first | lia | grind [zu_at, zu_atL, zvn])
set_option maxHeartbeats 4000000 in
set_option maxRecDepth 100000 in
theorem sf_X11_broken (p1 : Int32) (v1_3 : Int32) (v1_4 : Int32) : zw (fn_X11_broken p1 v1_3 v1_4) (fun r => True) := by
  unfold fn_X11_broken
  refine zw_if (fun c1 => ?_) (fun c1 => ?_)
  · refine zw_some ?_
    first | exact True.intro | ((try dsimp only); (repeat' apply And.intro) <;> first | with_reducible assumption | first | lia | grind [zu_at, zu_atL, zvn])
  refine zw_if (fun c2 => ?_) (fun c2 => ?_)
  · refine zw_some ?_
    first | exact True.intro | ((try dsimp only); (repeat' apply And.intro) <;> first | with_reducible assumption | first | lia | grind [zu_at, zu_atL, zvn])
  refine zw_some ?_
  first | exact True.intro | ((try dsimp only); (repeat' apply And.intro) <;> first | with_reducible assumption | first | lia | grind [zu_at, zu_atL, zvn])
set_option maxHeartbeats 4000000 in
set_option maxRecDepth 100000 in
theorem sf_X11_trials (p1 : Int32) (p2 : Int32) (v0_15 : Int32) (f1 : Nat → Int32) (v2_0 : Int32) (v3_0 : Int32) (v4_2 : Int32) (v5_1 : Int32) (v5_2 : Int32) (f6 : Nat → Int32) (f7 : Nat → Int32) (f8 : Nat → Int32) (f9 : Nat → Int32) (f10 : Nat → Int32) (f11 : Nat → Int64) (f12 : Nat → Int32) (f14 : Nat → Int64) (f15 : Nat → Int64) (f16 : Nat → Int32) (f17 : Nat → Int32) (f19 : Nat → Int64) (f20 : Nat → Int64) (h_v2_0 : 0 ≤ v2_0 ∧ v2_0 ≤ 4) (h_v3_0 : 0 ≤ v3_0 ∧ v3_0 ≤ 14) (h_v4_2 : 0 ≤ v4_2 ∧ v4_2 ≤ 1) (h_f6 : (∀ i : Nat, 0 ≤ f6 i ∧ f6 i ≤ 13)) : zw (fn_X11_trials p1 p2 v0_15 f1 v2_0 v3_0 v4_2 v5_1 v5_2 f6 f7 f8 f9 f10 f11 f12 f14 f15 f16 f17 f19 f20) (fun r => True) := by
  unfold fn_X11_trials
  refine zw_if (fun c1 => ?_) (fun c1 => ?_)
  · refine zw_zb0 (sf_X11_refuse 4 f1) (fun o_2 ho_2 => ?_)
    obtain ⟨o_2_0, o_2_1⟩ := o_2
    try dsimp only at ho_2
    obtain ⟨ho_2_0, ho_2_1⟩ := ho_2
    refine zw_some ?_
    first | exact True.intro | ((try dsimp only); (repeat' apply And.intro) <;> first | with_reducible assumption | first | lia | grind [zu_at, zu_atL, zvn])
  refine zw_if (fun c2 => ?_) (fun c2 => ?_)
  · refine zw_zb0 (sf_X11_refuse 4 f1) (fun o_7 ho_7 => ?_)
    obtain ⟨o_7_0, o_7_1⟩ := o_7
    try dsimp only at ho_7
    obtain ⟨ho_7_0, ho_7_1⟩ := ho_7
    refine zw_some ?_
    first | exact True.intro | ((try dsimp only); (repeat' apply And.intro) <;> first | with_reducible assumption | first | lia | grind [zu_at, zu_atL, zvn])
  refine zw_zb0 (sf_X9_hasNumber p2 v3_0 (by first | with_reducible assumption | exact ⟨by with_reducible assumption, by with_reducible assumption⟩ | first | lia | grind [zu_at, zu_atL, zvn])) (fun o_11 ho_11 => ?_)
  obtain ⟨ho_11_0, ho_11_1, ho_11_2, ho_11_3, ho_11_4, ho_11_5⟩ := ho_11
  refine zw_if (fun c3 => ?_) (fun c3 => ?_)
  · refine zw_zb0 (sf_X11_refuse 4 f1) (fun o_16 ho_16 => ?_)
    obtain ⟨o_16_0, o_16_1⟩ := o_16
    try dsimp only at ho_16
    obtain ⟨ho_16_0, ho_16_1⟩ := ho_16
    refine zw_some ?_
    first | exact True.intro | ((try dsimp only); (repeat' apply And.intro) <;> first | with_reducible assumption | first | lia | grind [zu_at, zu_atL, zvn])
  refine zw_zb0 (sf_X11_handPasses v2_0 v3_0 v4_2 v5_1 v5_2 f6 f7 f8 f9 f10 f11 f12 f14 f15 f16 f17 (by first | with_reducible assumption | exact ⟨by with_reducible assumption, by with_reducible assumption⟩ | first | lia | grind [zu_at, zu_atL, zvn]) (by first | with_reducible assumption | exact ⟨by with_reducible assumption, by with_reducible assumption⟩ | first | lia | grind [zu_at, zu_atL, zvn]) (by first | with_reducible assumption | exact ⟨by with_reducible assumption, by with_reducible assumption⟩ | first | lia | grind [zu_at, zu_atL, zvn]) (by first | with_reducible assumption | exact ⟨by with_reducible assumption, by with_reducible assumption⟩ | first | lia | grind [zu_at, zu_atL, zvn])) (fun o_20 ho_20 => ?_)
  obtain ⟨o_20_0, o_20_1, o_20_2, o_20_3⟩ := o_20
  try dsimp only at ho_20
  obtain ⟨ho_20_0, ho_20_1, ho_20_2, ho_20_3, ho_20_4, ho_20_5, ho_20_6⟩ := ho_20
  refine zw_if (fun c4 => ?_) (fun c4 => ?_)
  · refine zw_zb0 (sf_X11_refuse 4 f1) (fun o_33 ho_33 => ?_)
    obtain ⟨o_33_0, o_33_1⟩ := o_33
    try dsimp only at ho_33
    obtain ⟨ho_33_0, ho_33_1⟩ := ho_33
    refine zw_some ?_
    first | exact True.intro | ((try dsimp only); (repeat' apply And.intro) <;> first | with_reducible assumption | first | lia | grind [zu_at, zu_atL, zvn])
  refine zw_zl32 (fun s_25 => 0 ≤ s_25.1 ∧ 0 ≤ s_25.2.1 ∧ s_25.2.1 ≤ 40 ∧ s_25.2.1 ≤ p1) (fun s_25 => 40 - s_25.2.1) (by (try dsimp only); (repeat' apply And.intro) <;> first | with_reducible assumption | first | lia | grind [zu_at, zu_atL, zvn]) (by (try dsimp only); first | lia | grind [zu_at, zu_atL, zvn]) (fun s_25 back_25 Hback_25 hback_25 => ?_)
  obtain ⟨s_25_0, s_25_1, s_25_2, s_25_3, s_25_4⟩ := s_25
  try dsimp only at Hback_25 hback_25
  obtain ⟨Hback_25_0, Hback_25_1, Hback_25_2, Hback_25_3⟩ := Hback_25
  refine zw_if (fun c5 => ?_) (fun c5 => ?_)
  · refine zw_some ?_
    first | exact True.intro | ((try dsimp only); (repeat' apply And.intro) <;> first | with_reducible assumption | ((try clear hback_25); first | lia | grind [zu_at, zu_atL, zvn]))
  refine zw_zb0 (sf_X8_sample s_25_2 v2_0 v3_0 f6 f7 f8 f9 f10 f12 s_25_3 s_25_4 (by first | with_reducible assumption | exact ⟨by with_reducible assumption, by with_reducible assumption⟩ | ((try clear hback_25); first | lia | grind [zu_at, zu_atL, zvn])) (by first | with_reducible assumption | exact ⟨by with_reducible assumption, by with_reducible assumption⟩ | ((try clear hback_25); first | lia | grind [zu_at, zu_atL, zvn])) (by first | with_reducible assumption | exact ⟨by with_reducible assumption, by with_reducible assumption⟩ | ((try clear hback_25); first | lia | grind [zu_at, zu_atL, zvn]))) (fun o_27 ho_27 => ?_)
  obtain ⟨o_27_0, o_27_1, o_27_2⟩ := o_27
  try dsimp only at ho_27
  refine zw_zg32 14 (by decide) (by (try dsimp only); ((try clear hback_25); first | lia | grind [zu_at, zu_atL, zvn])) ?_
  refine zw_zn (fun x_32 ex_32 => ?_)
  exact hback_25 _ (by (try dsimp only); (repeat' apply And.intro) <;> first | with_reducible assumption | ((try clear hback_25); first | lia | grind [zu_at, zu_atL, zvn])) (by (try dsimp only); ((try clear hback_25); first | lia | grind [zu_at, zu_atL, zvn])) (by (try dsimp only); ((try clear hback_25); first | lia | grind [zu_at, zu_atL, zvn]))
set_option maxHeartbeats 4000000 in
set_option maxRecDepth 100000 in
theorem sf_X11_trial (p1 : Int32) (p2 : Int32) (v0_15 : Int32) (v1_0 : Int32) (v2_0 : Int32) (v3_2 : Int32) (v4_1 : Int32) (v4_2 : Int32) (f5 : Nat → Int32) (f6 : Nat → Int32) (f7 : Nat → Int32) (f8 : Nat → Int32) (f9 : Nat → Int32) (f10 : Nat → Int64) (f11 : Nat → Int32) (f13 : Nat → Int64) (f14 : Nat → Int64) (f15 : Nat → Int32) (f16 : Nat → Int32) (f18 : Nat → Int64) (f19 : Nat → Int64) (h_p2 : 0 ≤ p2 ∧ p2 ≤ 1) (h_v1_0 : 0 ≤ v1_0 ∧ v1_0 ≤ 4) (h_v2_0 : 0 ≤ v2_0 ∧ v2_0 ≤ 14) (h_v3_2 : 0 ≤ v3_2 ∧ v3_2 ≤ 1) (h_f5 : (∀ i : Nat, 0 ≤ f5 i ∧ f5 i ≤ 13)) : zw (fn_X11_trial p1 p2 v0_15 v1_0 v2_0 v3_2 v4_1 v4_2 f5 f6 f7 f8 f9 f10 f11 f13 f14 f15 f16 f18 f19) (fun r => True) := by
  unfold fn_X11_trial
  refine zw_zb0 (sf_X9_hasNumber p1 v2_0 (by first | with_reducible assumption | exact ⟨by with_reducible assumption, by with_reducible assumption⟩ | first | lia | grind [zu_at, zu_atL, zvn])) (fun o_1 ho_1 => ?_)
  obtain ⟨ho_1_0, ho_1_1, ho_1_2, ho_1_3, ho_1_4, ho_1_5⟩ := ho_1
  refine zw_if (fun c1 => ?_) (fun c1 => ?_)
  · refine zw_some ?_
    first | exact True.intro | ((try dsimp only); (repeat' apply And.intro) <;> first | with_reducible assumption | first | lia | grind [zu_at, zu_atL, zvn])
  refine zw_zb0 (sf_X11_handPasses v1_0 v2_0 v3_2 v4_1 v4_2 f5 f6 f7 f8 f9 f10 f11 f13 f14 f15 f16 (by first | with_reducible assumption | exact ⟨by with_reducible assumption, by with_reducible assumption⟩ | first | lia | grind [zu_at, zu_atL, zvn]) (by first | with_reducible assumption | exact ⟨by with_reducible assumption, by with_reducible assumption⟩ | first | lia | grind [zu_at, zu_atL, zvn]) (by first | with_reducible assumption | exact ⟨by with_reducible assumption, by with_reducible assumption⟩ | first | lia | grind [zu_at, zu_atL, zvn]) (by first | with_reducible assumption | exact ⟨by with_reducible assumption, by with_reducible assumption⟩ | first | lia | grind [zu_at, zu_atL, zvn])) (fun o_6 ho_6 => ?_)
  obtain ⟨o_6_0, o_6_1, o_6_2, o_6_3⟩ := o_6
  try dsimp only at ho_6
  obtain ⟨ho_6_0, ho_6_1, ho_6_2, ho_6_3, ho_6_4, ho_6_5, ho_6_6⟩ := ho_6
  refine zw_if (fun c2 => ?_) (fun c2 => ?_)
  · refine zw_some ?_
    first | exact True.intro | ((try dsimp only); (repeat' apply And.intro) <;> first | with_reducible assumption | first | lia | grind [zu_at, zu_atL, zvn])
  refine zw_zb0 (sf_X8_sample v0_15 v1_0 v2_0 f5 f6 f7 f8 f9 f11 f18 f19 (by first | with_reducible assumption | exact ⟨by with_reducible assumption, by with_reducible assumption⟩ | first | lia | grind [zu_at, zu_atL, zvn]) (by first | with_reducible assumption | exact ⟨by with_reducible assumption, by with_reducible assumption⟩ | first | lia | grind [zu_at, zu_atL, zvn]) (by first | with_reducible assumption | exact ⟨by with_reducible assumption, by with_reducible assumption⟩ | first | lia | grind [zu_at, zu_atL, zvn])) (fun o_11 ho_11 => ?_)
  obtain ⟨o_11_0, o_11_1, o_11_2⟩ := o_11
  try dsimp only at ho_11
  refine zw_if (fun c3 => ?_) (fun c3 => ?_)
  · refine zw_zg32 14 (by decide) (by (try dsimp only); first | lia | grind [zu_at, zu_atL, zvn]) ?_
    refine zw_some ?_
    first | exact True.intro | ((try dsimp only); (repeat' apply And.intro) <;> first | with_reducible assumption | first | lia | grind [zu_at, zu_atL, zvn])
  refine zw_zg32 14 (by decide) (by (try dsimp only); first | lia | grind [zu_at, zu_atL, zvn]) ?_
  refine zw_some ?_
  first | exact True.intro | ((try dsimp only); (repeat' apply And.intro) <;> first | with_reducible assumption | first | lia | grind [zu_at, zu_atL, zvn])
set_option maxHeartbeats 4000000 in
set_option maxRecDepth 100000 in
theorem sf_X11_seed (p1 : Int32) (v0_15 : Int32) (f1 : Nat → Int32) : zw (fn_X11_seed p1 v0_15 f1) (fun r => 0 ≤ r.1 ∧ r.1 ≤ 1) := by
  unfold fn_X11_seed
  refine zw_if (fun c1 => ?_) (fun c1 => ?_)
  · refine zw_some ?_
    first | exact True.intro | ((try dsimp only); (repeat' apply And.intro) <;> first | with_reducible assumption | first | lia | grind [zu_at, zu_atL, zvn])
  refine zw_zb0 (sf_X11_refuse 4 f1) (fun o_2 ho_2 => ?_)
  obtain ⟨o_2_0, o_2_1⟩ := o_2
  try dsimp only at ho_2
  obtain ⟨ho_2_0, ho_2_1⟩ := ho_2
  refine zw_some ?_
  first | exact True.intro | ((try dsimp only); (repeat' apply And.intro) <;> first | with_reducible assumption | first | lia | grind [zu_at, zu_atL, zvn])
set_option maxHeartbeats 4000000 in
set_option maxRecDepth 100000 in
theorem sf_X11_status (p1 : Int32) (f1 : Nat → Int32) : zw (fn_X11_status p1 f1) (fun r => True) := by
  unfold fn_X11_status
  refine zw_if (fun c1 => ?_) (fun c1 => ?_)
  · refine zw_some ?_
    first | exact True.intro | ((try dsimp only); (repeat' apply And.intro) <;> first | with_reducible assumption | first | lia | grind [zu_at, zu_atL, zvn])
  refine zw_if (fun c2 => ?_) (fun c2 => ?_)
  · refine zw_some ?_
    first | exact True.intro | ((try dsimp only); (repeat' apply And.intro) <;> first | with_reducible assumption | first | lia | grind [zu_at, zu_atL, zvn])
  refine zw_zg32 5 (by decide) (by (try dsimp only); first | lia | grind [zu_at, zu_atL, zvn]) ?_
  refine zw_some ?_
  first | exact True.intro | ((try dsimp only); (repeat' apply And.intro) <;> first | with_reducible assumption | first | lia | grind [zu_at, zu_atL, zvn])
set_option maxHeartbeats 4000000 in
set_option maxRecDepth 100000 in
theorem sf_X12_isIn (j0 : Int64) (j1 : Int64) (j2 : Int64) : zw (fn_X12_isIn j0 j1 j2) (fun r => 0 ≤ r ∧ r ≤ 1 ∧ (¬ r = 0 → 1 ≤ r ∧ j0 ≤ j2 ∧ j1 ≤ j0) ∧ (r = 1 → j0 ≤ j2 ∧ j1 ≤ j0) ∧ (¬ r = 1 → r ≤ 0)) := by
  unfold fn_X12_isIn
  refine zw_ifc (lg_cmp_lt _ _) (fun c1 => ?_) (fun c1 => ?_)
  · refine zw_some ?_
    first | exact True.intro | ((try dsimp only); (repeat' apply And.intro) <;> first | with_reducible assumption | first | lia | grind [zu_at, zu_atL, zvn])
  refine zw_ifc (lg_cmp_gt _ _) (fun c2 => ?_) (fun c2 => ?_)
  · refine zw_some ?_
    first | exact True.intro | ((try dsimp only); (repeat' apply And.intro) <;> first | with_reducible assumption | first | lia | grind [zu_at, zu_atL, zvn])
  refine zw_some ?_
  first | exact True.intro | ((try dsimp only); (repeat' apply And.intro) <;> first | with_reducible assumption | first | lia | grind [zu_at, zu_atL, zvn])
set_option maxHeartbeats 4000000 in
set_option maxRecDepth 100000 in
theorem sf_X12_amount (j0 : Int64) : zw (fn_X12_amount j0) (fun r => ((0 ≤ j0 ∧ 0 ≤ r ∧ j0 ≤ r ∧ r ≤ j0) ∨ (j0 ≤ (-1)))) := by
  unfold fn_X12_amount
  refine zw_ifc (lg_cmp_ge _ _) (fun c1 => ?_) (fun c1 => ?_)
  · refine zw_some ?_
    first | exact True.intro | ((try dsimp only); (repeat' apply And.intro) <;> first | with_reducible assumption | first | lia | grind [zu_at, zu_atL, zvn])
  refine zw_some ?_
  first | exact True.intro | ((try dsimp only); (repeat' apply And.intro) <;> first | with_reducible assumption | first | lia | grind [zu_at, zu_atL, zvn])
set_option maxHeartbeats 4000000 in
set_option maxRecDepth 100000 in
theorem sf_X12_greater (j0 : Int64) (j1 : Int64) : zw (fn_X12_greater j0 j1) (fun r => ((j1 ≤ r ∧ r ≤ j1 ∧ j0 ≤ j1) ∨ (j0 ≤ r ∧ r ≤ j0 ∧ j1 < j0))) := by
  unfold fn_X12_greater
  refine zw_ifc (lg_cmp_le _ _) (fun c1 => ?_) (fun c1 => ?_)
  · refine zw_some ?_
    first | exact True.intro | ((try dsimp only); (repeat' apply And.intro) <;> first | with_reducible assumption | first | lia | grind [zu_at, zu_atL, zvn])
  refine zw_some ?_
  first | exact True.intro | ((try dsimp only); (repeat' apply And.intro) <;> first | with_reducible assumption | first | lia | grind [zu_at, zu_atL, zvn])
set_option maxHeartbeats 4000000 in
set_option maxRecDepth 100000 in
theorem sf_X12_lesser (j0 : Int64) (j1 : Int64) : zw (fn_X12_lesser j0 j1) (fun r => ((j1 ≤ r ∧ r ≤ j1 ∧ j1 ≤ j0) ∨ (j0 ≤ r ∧ r ≤ j0 ∧ j0 < j1))) := by
  unfold fn_X12_lesser
  refine zw_ifc (lg_cmp_ge _ _) (fun c1 => ?_) (fun c1 => ?_)
  · refine zw_some ?_
    first | exact True.intro | ((try dsimp only); (repeat' apply And.intro) <;> first | with_reducible assumption | first | lia | grind [zu_at, zu_atL, zvn])
  refine zw_some ?_
  first | exact True.intro | ((try dsimp only); (repeat' apply And.intro) <;> first | with_reducible assumption | first | lia | grind [zu_at, zu_atL, zvn])
set_option maxHeartbeats 4000000 in
set_option maxRecDepth 100000 in
theorem sf_X12_floor (j0 : Int64) (j1 : Int64) (hx_0 : ¬ j1 = 0) : zw (fn_X12_floor j0 j1) (fun r => True) := by
  unfold fn_X12_floor
  refine zw_zd (by (try dsimp only); first | lia | grind [zu_at, zu_atL, zvn]) ?_
  refine zw_zd (by (try dsimp only); first | lia | grind [zu_at, zu_atL, zvn]) ?_
  refine zw_ifc (lg_cmp_eq _ _) (fun c1 => ?_) (fun c1 => ?_)
  · refine zw_some ?_
    first | exact True.intro | ((try dsimp only); (repeat' apply And.intro) <;> first | with_reducible assumption | first | lia | grind [zu_at, zu_atL, zvn])
  refine zw_ifc (lg_cmp_ge _ _) (fun c2 => ?_) (fun c2 => ?_)
  · refine zw_some ?_
    first | exact True.intro | ((try dsimp only); (repeat' apply And.intro) <;> first | with_reducible assumption | first | lia | grind [zu_at, zu_atL, zvn])
  refine zw_some ?_
  first | exact True.intro | ((try dsimp only); (repeat' apply And.intro) <;> first | with_reducible assumption | first | lia | grind [zu_at, zu_atL, zvn])
set_option maxHeartbeats 4000000 in
set_option maxRecDepth 100000 in
theorem sf_X12_refuses (p1 : Int32) (f1 : Nat → Int32) (h_p1 : 0 ≤ p1 ∧ p1 ≤ 4) : zw (fn_X12_refuses p1 f1) (fun r => (-1) ≤ r.1 ∧ r.1 ≤ (-1)) := by
  unfold fn_X12_refuses
  refine zw_zg32 5 (by decide) (by (try dsimp only); first | lia | grind [zu_at, zu_atL, zvn]) ?_
  refine zw_some ?_
  first | exact True.intro | ((try dsimp only); (repeat' apply And.intro) <;> first | with_reducible assumption | first | lia | grind [zu_at, zu_atL, zvn])
set_option maxHeartbeats 4000000 in
set_option maxRecDepth 100000 in
theorem sf_X12_isRefused (p1 : Int32) (f1 : Nat → Int32) (h_p1 : 0 ≤ p1 ∧ p1 ≤ 4) : zw (fn_X12_isRefused p1 f1) (fun r => 0 ≤ r.1 ∧ r.1 ≤ 1 ∧ r.1 ≤ 0) := by
  unfold fn_X12_isRefused
  refine zw_zg32 5 (by decide) (by (try dsimp only); first | lia | grind [zu_at, zu_atL, zvn]) ?_
  refine zw_some ?_
  first | exact True.intro | ((try dsimp only); (repeat' apply And.intro) <;> first | with_reducible assumption | first | lia | grind [zu_at, zu_atL, zvn])
set_option maxHeartbeats 4000000 in
set_option maxRecDepth 100000 in
theorem sf_X12_lays (p1 : Int32) (v0_1 : Int32) (f1 : Nat → Int32) (h_v0_1 : 0 ≤ v0_1 ∧ v0_1 ≤ 1196) (h_f1 : (∀ i : Nat, 0 ≤ f1 i ∧ f1 i ≤ 255)) : zw (fn_X12_lays p1 v0_1 f1) (fun r => 0 ≤ r.1 ∧ r.1 ≤ 1200 ∧ (∀ i : Nat, 0 ≤ r.2 i ∧ r.2 i ≤ 255) ∧ 4 ≤ r.1 ∧ r.1 ≤ v0_1 + 4 ∧ v0_1 + 4 ≤ r.1) := by
  unfold fn_X12_lays
  refine zw_zl32 (fun s_1 => (∀ i : Nat, 0 ≤ s_1.2 i ∧ s_1.2 i ≤ 255) ∧ 0 ≤ s_1.1 ∧ s_1.1 ≤ 4) (fun s_1 => 4 - s_1.1) (by (try dsimp only); (repeat' apply And.intro) <;> first | with_reducible assumption | first | lia | grind [zu_at, zu_atL, zvn, zand255]) (by (try dsimp only); first | lia | grind [zu_at, zu_atL, zvn, zand255]) (fun s_1 back_1 Hback_1 hback_1 => ?_)
  obtain ⟨s_1_0, s_1_1⟩ := s_1
  try dsimp only at Hback_1 hback_1
  obtain ⟨Hback_1_0, Hback_1_1, Hback_1_2⟩ := Hback_1
  refine zw_if (fun c1 => ?_) (fun c1 => ?_)
  · refine zw_some ?_
    first | exact True.intro | ((try dsimp only); (repeat' apply And.intro) <;> first | with_reducible assumption | first | lia | grind [zu_at, zu_atL, zvn, zand255])
  refine zw_zg32 1200 (by decide) (by (try dsimp only); first | lia | grind [zu_at, zu_atL, zvn, zand255]) ?_
  refine zw_zn1 ?_
  exact hback_1 _ (by (try dsimp only); (repeat' apply And.intro) <;> first | with_reducible assumption | first | lia | grind [zu_at, zu_atL, zvn, zand255]) (by (try dsimp only); first | lia | grind [zu_at, zu_atL, zvn, zand255]) (by (try dsimp only); first | lia | grind [zu_at, zu_atL, zvn, zand255])
set_option maxHeartbeats 4000000 in
set_option maxRecDepth 100000 in
theorem sf_X12_feed (p1 : Int32) (p2 : Int32) (p3 : Int32) (p4 : Int32) (p5 : Int32) (v0_1 : Int32) (f1 : Nat → Int32) (f2 : Nat → Int32) (h_v0_1 : 0 ≤ v0_1 ∧ v0_1 ≤ 1200) (h_f1 : (∀ i : Nat, 0 ≤ f1 i ∧ f1 i ≤ 255)) : zw (fn_X12_feed p1 p2 p3 p4 p5 v0_1 f1 f2) (fun r => 0 ≤ r.2.1 ∧ r.2.1 ≤ 1200 ∧ (∀ i : Nat, 0 ≤ r.2.2.1 i ∧ r.2.2.1 i ≤ 255) ∧ (-1) ≤ r.1 ∧ 20 ≤ r.2.1 ∧ r.1 ≤ 1200 ∧ r.1 ≤ r.2.1 ∧ v0_1 ≤ r.2.1 ∧ (r.1 = (-1) → 1181 ≤ r.2.1 ∧ 1181 ≤ v0_1 ∧ r.2.1 ≤ v0_1) ∧ (¬ r.1 = (-1) → 20 ≤ r.1 ∧ v0_1 ≤ 1180 ∧ r.2.1 ≤ r.1 ∧ v0_1 + 20 ≤ r.1)) := by
  unfold fn_X12_feed
  refine zw_if (fun c1 => ?_) (fun c1 => ?_)
  · refine zw_zb0 (sf_X12_lays p1 v0_1 f1 (by first | with_reducible assumption | exact ⟨by with_reducible assumption, by with_reducible assumption⟩ | first | lia | grind [zu_at, zu_atL, zvn]) (by first | with_reducible assumption | exact ⟨by with_reducible assumption, by with_reducible assumption⟩ | first | lia | grind [zu_at, zu_atL, zvn])) (fun o_2 ho_2 => ?_)
    obtain ⟨o_2_0, o_2_1⟩ := o_2
    try dsimp only at ho_2
    obtain ⟨ho_2_0, ho_2_1, ho_2_2, ho_2_3, ho_2_4, ho_2_5⟩ := ho_2
    refine zw_zb0 (sf_X12_lays p2 o_2_0 o_2_1 (by first | with_reducible assumption | exact ⟨by with_reducible assumption, by with_reducible assumption⟩ | first | lia | grind [zu_at, zu_atL, zvn]) (by first | with_reducible assumption | exact ⟨by with_reducible assumption, by with_reducible assumption⟩ | first | lia | grind [zu_at, zu_atL, zvn])) (fun o_6 ho_6 => ?_)
    obtain ⟨o_6_0, o_6_1⟩ := o_6
    try dsimp only at ho_6
    obtain ⟨ho_6_0, ho_6_1, ho_6_2, ho_6_3, ho_6_4, ho_6_5⟩ := ho_6
    refine zw_zb0 (sf_X12_lays p3 o_6_0 o_6_1 (by first | with_reducible assumption | exact ⟨by with_reducible assumption, by with_reducible assumption⟩ | first | lia | grind [zu_at, zu_atL, zvn]) (by first | with_reducible assumption | exact ⟨by with_reducible assumption, by with_reducible assumption⟩ | first | lia | grind [zu_at, zu_atL, zvn])) (fun o_10 ho_10 => ?_)
    obtain ⟨o_10_0, o_10_1⟩ := o_10
    try dsimp only at ho_10
    obtain ⟨ho_10_0, ho_10_1, ho_10_2, ho_10_3, ho_10_4, ho_10_5⟩ := ho_10
    refine zw_zb0 (sf_X12_lays p4 o_10_0 o_10_1 (by first | with_reducible assumption | exact ⟨by with_reducible assumption, by with_reducible assumption⟩ | first | lia | grind [zu_at, zu_atL, zvn]) (by first | with_reducible assumption | exact ⟨by with_reducible assumption, by with_reducible assumption⟩ | first | lia | grind [zu_at, zu_atL, zvn])) (fun o_14 ho_14 => ?_)
    obtain ⟨o_14_0, o_14_1⟩ := o_14
    try dsimp only at ho_14
    obtain ⟨ho_14_0, ho_14_1, ho_14_2, ho_14_3, ho_14_4, ho_14_5⟩ := ho_14
    refine zw_zb0 (sf_X12_lays p5 o_14_0 o_14_1 (by first | with_reducible assumption | exact ⟨by with_reducible assumption, by with_reducible assumption⟩ | first | lia | grind [zu_at, zu_atL, zvn]) (by first | with_reducible assumption | exact ⟨by with_reducible assumption, by with_reducible assumption⟩ | first | lia | grind [zu_at, zu_atL, zvn])) (fun o_18 ho_18 => ?_)
    obtain ⟨o_18_0, o_18_1⟩ := o_18
    try dsimp only at ho_18
    obtain ⟨ho_18_0, ho_18_1, ho_18_2, ho_18_3, ho_18_4, ho_18_5⟩ := ho_18
    refine zw_some ?_
    first | exact True.intro | ((try dsimp only); (repeat' apply And.intro) <;> first | with_reducible assumption | first | lia | grind [zu_at, zu_atL, zvn])
  refine zw_zb0 (sf_X12_refuses 0 f2 (by first | with_reducible assumption | exact ⟨by with_reducible assumption, by with_reducible assumption⟩ | first | lia | grind [zu_at, zu_atL, zvn])) (fun o_22 ho_22 => ?_)
  obtain ⟨o_22_0, o_22_1⟩ := o_22
  try dsimp only at ho_22
  obtain ⟨ho_22_0, ho_22_1⟩ := ho_22
  refine zw_some ?_
  first | exact True.intro | ((try dsimp only); (repeat' apply And.intro) <;> first | with_reducible assumption | first | lia | grind [zu_at, zu_atL, zvn])
set_option maxHeartbeats 4000000 in
set_option maxRecDepth 100000 in
theorem sf_X12_end (p1 : Int32) (v0_1 : Int32) (f1 : Nat → Int32) (h_v0_1 : 0 ≤ v0_1 ∧ v0_1 ≤ 1200) : zw (fn_X12_end p1 v0_1 f1) (fun r => 0 ≤ r.1 ∧ r.1 ≤ 1 ∧ 0 ≤ r.2.1 ∧ r.2.1 ≤ 1200 ∧ r.2.1 ≤ v0_1 ∧ (r.1 = 0 → v0_1 ≤ r.2.1 ∧ r.1 ≤ r.2.1) ∧ (¬ r.1 = 0 → 0 ≤ p1 ∧ 1 ≤ r.1 ∧ p1 ≤ 1200 ∧ p1 ≤ r.2.1 ∧ r.2.1 ≤ p1) ∧ (r.1 = 1 → 0 ≤ p1 ∧ p1 ≤ 1200 ∧ p1 ≤ r.2.1 ∧ r.2.1 ≤ p1) ∧ (¬ r.1 = 1 → r.1 ≤ 0 ∧ v0_1 ≤ r.2.1)) := by
  unfold fn_X12_end
  refine zw_if (fun c1 => ?_) (fun c1 => ?_)
  · refine zw_zb0 (sf_X12_isRefused 0 f1 (by first | with_reducible assumption | exact ⟨by with_reducible assumption, by with_reducible assumption⟩ | first | lia | grind [zu_at, zu_atL, zvn])) (fun o_2 ho_2 => ?_)
    obtain ⟨o_2_0, o_2_1⟩ := o_2
    try dsimp only at ho_2
    obtain ⟨ho_2_0, ho_2_1, ho_2_2⟩ := ho_2
    refine zw_some ?_
    first | exact True.intro | ((try dsimp only); (repeat' apply And.intro) <;> first | with_reducible assumption | first | lia | grind [zu_at, zu_atL, zvn])
  refine zw_if (fun c2 => ?_) (fun c2 => ?_)
  · refine zw_some ?_
    first | exact True.intro | ((try dsimp only); (repeat' apply And.intro) <;> first | with_reducible assumption | first | lia | grind [zu_at, zu_atL, zvn])
  refine zw_zb0 (sf_X12_isRefused 0 f1 (by first | with_reducible assumption | exact ⟨by with_reducible assumption, by with_reducible assumption⟩ | first | lia | grind [zu_at, zu_atL, zvn])) (fun o_7 ho_7 => ?_)
  obtain ⟨o_7_0, o_7_1⟩ := o_7
  try dsimp only at ho_7
  obtain ⟨ho_7_0, ho_7_1, ho_7_2⟩ := ho_7
  refine zw_some ?_
  first | exact True.intro | ((try dsimp only); (repeat' apply And.intro) <;> first | with_reducible assumption | first | lia | grind [zu_at, zu_atL, zvn])
set_option maxHeartbeats 4000000 in
set_option maxRecDepth 100000 in
theorem sf_X12_byteAt (p1 : Int32) (v0_5 : Int32) (f1 : Nat → Int32) (h_v0_5 : 0 ≤ v0_5 ∧ v0_5 ≤ 1200) (h_f1 : (∀ i : Nat, 0 ≤ f1 i ∧ f1 i ≤ 255)) : zw (fn_X12_byteAt p1 v0_5 f1) (fun r => (-1) ≤ r ∧ r ≤ 255 ∧ (r = (-1) → r < v0_5) ∧ (¬ r = (-1) → 0 ≤ p1 ∧ 0 ≤ r ∧ p1 ≤ 1199 ∧ 1 ≤ v0_5 ∧ p1 < v0_5 ∧ (f1 p1.toNatClampNeg) ≤ 255 ∧ 0 ≤ (f1 p1.toNatClampNeg) ∧ (f1 p1.toNatClampNeg) ≤ r ∧ r ≤ (f1 p1.toNatClampNeg))) := by
  unfold fn_X12_byteAt
  refine zw_if (fun c1 => ?_) (fun c1 => ?_)
  · refine zw_some ?_
    first | exact True.intro | ((try dsimp only); (repeat' apply And.intro) <;> first | with_reducible assumption | first | lia | grind [zu_at, zu_atL, zvn])
  refine zw_if (fun c2 => ?_) (fun c2 => ?_)
  · refine zw_some ?_
    first | exact True.intro | ((try dsimp only); (repeat' apply And.intro) <;> first | with_reducible assumption | first | lia | grind [zu_at, zu_atL, zvn])
  refine zw_zg32 1200 (by decide) (by (try dsimp only); first | lia | grind [zu_at, zu_atL, zvn]) ?_
  refine zw_some ?_
  first | exact True.intro | ((try dsimp only); (repeat' apply And.intro) <;> first | with_reducible assumption | first | lia | grind [zu_at, zu_atL, zvn])
set_option maxHeartbeats 4000000 in
set_option maxRecDepth 100000 in
theorem sf_X12_isSmall (p1 : Int32) (v0_5 : Int32) (f1 : Nat → Int32) (h_v0_5 : 0 ≤ v0_5 ∧ v0_5 ≤ 1200) (h_f1 : (∀ i : Nat, 0 ≤ f1 i ∧ f1 i ≤ 255)) : zw (fn_X12_isSmall p1 v0_5 f1) (fun r => 0 ≤ r ∧ r ≤ 1 ∧ r ≤ v0_5 ∧ (¬ r = 0 → 0 ≤ p1 ∧ 1 ≤ r ∧ p1 ≤ 1199 ∧ p1 < v0_5 ∧ (f1 p1.toNatClampNeg) ≤ 255 ∧ 97 ≤ (f1 p1.toNatClampNeg)) ∧ (r = 1 → 0 ≤ p1 ∧ p1 ≤ 1199 ∧ 1 ≤ v0_5 ∧ p1 < v0_5 ∧ (f1 p1.toNatClampNeg) ≤ 255 ∧ 97 ≤ (f1 p1.toNatClampNeg)) ∧ (¬ r = 1 → r ≤ 0)) := by
  unfold fn_X12_isSmall
  refine zw_zb0 (sf_X12_byteAt p1 v0_5 f1 (by first | with_reducible assumption | exact ⟨by with_reducible assumption, by with_reducible assumption⟩ | first | lia | grind [zu_at, zu_atL, zvn]) (by first | with_reducible assumption | exact ⟨by with_reducible assumption, by with_reducible assumption⟩ | first | lia | grind [zu_at, zu_atL, zvn])) (fun o_1 ho_1 => ?_)
  obtain ⟨ho_1_0, ho_1_1, ho_1_2, ho_1_3⟩ := ho_1
  refine zw_if (fun c1 => ?_) (fun c1 => ?_)
  · refine zw_some ?_
    first | exact True.intro | ((try dsimp only); (repeat' apply And.intro) <;> first | with_reducible assumption | first | lia | grind [zu_at, zu_atL, zvn])
  refine zw_zb0 (sf_X12_byteAt p1 v0_5 f1 (by first | with_reducible assumption | exact ⟨by with_reducible assumption, by with_reducible assumption⟩ | first | lia | grind [zu_at, zu_atL, zvn]) (by first | with_reducible assumption | exact ⟨by with_reducible assumption, by with_reducible assumption⟩ | first | lia | grind [zu_at, zu_atL, zvn])) (fun o_6 ho_6 => ?_)
  obtain ⟨ho_6_0, ho_6_1, ho_6_2, ho_6_3⟩ := ho_6
  refine zw_if (fun c2 => ?_) (fun c2 => ?_)
  · refine zw_some ?_
    first | exact True.intro | ((try dsimp only); (repeat' apply And.intro) <;> first | with_reducible assumption | first | lia | grind [zu_at, zu_atL, zvn])
  refine zw_some ?_
  first | exact True.intro | ((try dsimp only); (repeat' apply And.intro) <;> first | with_reducible assumption | first | lia | grind [zu_at, zu_atL, zvn])
set_option maxHeartbeats 4000000 in
set_option maxRecDepth 100000 in
theorem sf_X12_isDigit (p1 : Int32) (v0_5 : Int32) (f1 : Nat → Int32) (h_v0_5 : 0 ≤ v0_5 ∧ v0_5 ≤ 1200) (h_f1 : (∀ i : Nat, 0 ≤ f1 i ∧ f1 i ≤ 255)) : zw (fn_X12_isDigit p1 v0_5 f1) (fun r => 0 ≤ r ∧ r ≤ 1 ∧ r ≤ v0_5 ∧ (¬ r = 0 → 0 ≤ p1 ∧ 1 ≤ r ∧ p1 ≤ 1199 ∧ p1 < v0_5 ∧ (f1 p1.toNatClampNeg) ≤ 255 ∧ 48 ≤ (f1 p1.toNatClampNeg)) ∧ (r = 1 → 0 ≤ p1 ∧ p1 ≤ 1199 ∧ 1 ≤ v0_5 ∧ p1 < v0_5 ∧ (f1 p1.toNatClampNeg) ≤ 255 ∧ 48 ≤ (f1 p1.toNatClampNeg)) ∧ (¬ r = 1 → r ≤ 0)) := by
  unfold fn_X12_isDigit
  refine zw_zb0 (sf_X12_byteAt p1 v0_5 f1 (by first | with_reducible assumption | exact ⟨by with_reducible assumption, by with_reducible assumption⟩ | first | lia | grind [zu_at, zu_atL, zvn]) (by first | with_reducible assumption | exact ⟨by with_reducible assumption, by with_reducible assumption⟩ | first | lia | grind [zu_at, zu_atL, zvn])) (fun o_1 ho_1 => ?_)
  obtain ⟨ho_1_0, ho_1_1, ho_1_2, ho_1_3⟩ := ho_1
  refine zw_if (fun c1 => ?_) (fun c1 => ?_)
  · refine zw_some ?_
    first | exact True.intro | ((try dsimp only); (repeat' apply And.intro) <;> first | with_reducible assumption | first | lia | grind [zu_at, zu_atL, zvn])
  refine zw_zb0 (sf_X12_byteAt p1 v0_5 f1 (by first | with_reducible assumption | exact ⟨by with_reducible assumption, by with_reducible assumption⟩ | first | lia | grind [zu_at, zu_atL, zvn]) (by first | with_reducible assumption | exact ⟨by with_reducible assumption, by with_reducible assumption⟩ | first | lia | grind [zu_at, zu_atL, zvn])) (fun o_6 ho_6 => ?_)
  obtain ⟨ho_6_0, ho_6_1, ho_6_2, ho_6_3⟩ := ho_6
  refine zw_if (fun c2 => ?_) (fun c2 => ?_)
  · refine zw_some ?_
    first | exact True.intro | ((try dsimp only); (repeat' apply And.intro) <;> first | with_reducible assumption | first | lia | grind [zu_at, zu_atL, zvn])
  refine zw_some ?_
  first | exact True.intro | ((try dsimp only); (repeat' apply And.intro) <;> first | with_reducible assumption | first | lia | grind [zu_at, zu_atL, zvn])
set_option maxHeartbeats 4000000 in
set_option maxRecDepth 100000 in
theorem sf_X12_here (v0_5 : Int32) (v0_6 : Int32) (f1 : Nat → Int32) (h_v0_5 : 0 ≤ v0_5 ∧ v0_5 ≤ 1200) (h_v0_6 : 0 ≤ v0_6 ∧ v0_6 ≤ 1200) (h_f1 : (∀ i : Nat, 0 ≤ f1 i ∧ f1 i ≤ 255)) : zw (fn_X12_here v0_5 v0_6 f1) (fun r => 0 ≤ r.2 ∧ r.2 ≤ 1200 ∧ (-1) ≤ r.1 ∧ r.1 ≤ 255 ∧ v0_6 ≤ r.2 ∧ (r.1 = (-1) → r.1 < r.2 ∧ r.1 < v0_5 ∧ r.1 < v0_6) ∧ (¬ r.1 = (-1) → 0 ≤ r.1 ∧ r.2 ≤ 1199 ∧ 1 ≤ v0_5 ∧ r.2 < v0_5)) := by
  unfold fn_X12_here
  refine zw_zl32 (fun s_1 => 0 ≤ s_1 ∧ s_1 ≤ 1200 ∧ v0_6 ≤ s_1) (fun s_1 => 1200 - s_1) (by (try dsimp only); (repeat' apply And.intro) <;> first | with_reducible assumption | first | lia | grind [zu_at, zu_atL, zvn]) (by (try dsimp only); first | lia | grind [zu_at, zu_atL, zvn]) (fun s_1 back_1 Hback_1 hback_1 => ?_)
  obtain ⟨Hback_1_0, Hback_1_1, Hback_1_2⟩ := Hback_1
  refine zw_zb0 (sf_X12_byteAt s_1 v0_5 f1 (by first | with_reducible assumption | exact ⟨by with_reducible assumption, by with_reducible assumption⟩ | ((try clear hback_1); first | lia | grind [zu_at, zu_atL, zvn])) (by first | with_reducible assumption | exact ⟨by with_reducible assumption, by with_reducible assumption⟩ | ((try clear hback_1); first | lia | grind [zu_at, zu_atL, zvn]))) (fun o_2 ho_2 => ?_)
  obtain ⟨ho_2_0, ho_2_1, ho_2_2, ho_2_3⟩ := ho_2
  refine zw_if (fun c1 => ?_) (fun c1 => ?_)
  · exact hback_1 _ (by (try dsimp only); (repeat' apply And.intro) <;> first | with_reducible assumption | ((try clear hback_1); first | lia | grind [zu_at, zu_atL, zvn])) (by (try dsimp only); ((try clear hback_1); first | lia | grind [zu_at, zu_atL, zvn])) (by (try dsimp only); ((try clear hback_1); first | lia | grind [zu_at, zu_atL, zvn]))
  refine zw_zb0 (sf_X12_byteAt s_1 v0_5 f1 (by first | with_reducible assumption | exact ⟨by with_reducible assumption, by with_reducible assumption⟩ | ((try clear hback_1); first | lia | grind [zu_at, zu_atL, zvn])) (by first | with_reducible assumption | exact ⟨by with_reducible assumption, by with_reducible assumption⟩ | ((try clear hback_1); first | lia | grind [zu_at, zu_atL, zvn]))) (fun o_7 ho_7 => ?_)
  obtain ⟨ho_7_0, ho_7_1, ho_7_2, ho_7_3⟩ := ho_7
  refine zw_if (fun c2 => ?_) (fun c2 => ?_)
  · exact hback_1 _ (by (try dsimp only); (repeat' apply And.intro) <;> first | with_reducible assumption | ((try clear hback_1); first | lia | grind [zu_at, zu_atL, zvn])) (by (try dsimp only); ((try clear hback_1); first | lia | grind [zu_at, zu_atL, zvn])) (by (try dsimp only); ((try clear hback_1); first | lia | grind [zu_at, zu_atL, zvn]))
  refine zw_zb0 (sf_X12_byteAt s_1 v0_5 f1 (by first | with_reducible assumption | exact ⟨by with_reducible assumption, by with_reducible assumption⟩ | ((try clear hback_1); first | lia | grind [zu_at, zu_atL, zvn])) (by first | with_reducible assumption | exact ⟨by with_reducible assumption, by with_reducible assumption⟩ | ((try clear hback_1); first | lia | grind [zu_at, zu_atL, zvn]))) (fun o_12 ho_12 => ?_)
  obtain ⟨ho_12_0, ho_12_1, ho_12_2, ho_12_3⟩ := ho_12
  refine zw_some ?_
  first | exact True.intro | ((try dsimp only); (repeat' apply And.intro) <;> first | with_reducible assumption | ((try clear hback_1); first | lia | grind [zu_at, zu_atL, zvn]))
set_option maxHeartbeats 4000000 in
set_option maxRecDepth 100000 in
theorem sf_X12_faults (p1 : Int32) (p2 : Int32) (v0_8 : Int32) (v0_9 : Int32) (h_p1 : 1 ≤ p1 ∧ p1 ≤ 4) (h_v0_8 : 0 ≤ v0_8 ∧ v0_8 ≤ 4) : zw (fn_X12_faults p1 p2 v0_8 v0_9) (fun r => 0 ≤ r.1 ∧ r.1 ≤ 4 ∧ 1 ≤ r.1 ∧ v0_8 ≤ r.1) := by
  unfold fn_X12_faults
  refine zw_if (fun c1 => ?_) (fun c1 => ?_)
  · refine zw_some ?_
    first | exact True.intro | ((try dsimp only); (repeat' apply And.intro) <;> first | with_reducible assumption | first | lia | grind [zu_at, zu_atL, zvn])
  refine zw_some ?_
  first | exact True.intro | ((try dsimp only); (repeat' apply And.intro) <;> first | with_reducible assumption | first | lia | grind [zu_at, zu_atL, zvn])
set_option maxHeartbeats 4000000 in
set_option maxRecDepth 100000 in
theorem sf_X12_goesWell (v0_8 : Int32) (h_v0_8 : 0 ≤ v0_8 ∧ v0_8 ≤ 4) : zw (fn_X12_goesWell v0_8) (fun r => 0 ≤ r ∧ r ≤ 1 ∧ (r = 1 → v0_8 ≤ 0 ∧ v0_8 < r) ∧ (¬ r = 1 → r ≤ 0 ∧ 1 ≤ v0_8) ∧ (r = 0 → 1 ≤ v0_8 ∧ r < v0_8) ∧ (¬ r = 0 → 1 ≤ r ∧ v0_8 ≤ 0)) := by
  unfold fn_X12_goesWell
  refine zw_if (fun c1 => ?_) (fun c1 => ?_)
  · refine zw_some ?_
    first | exact True.intro | ((try dsimp only); (repeat' apply And.intro) <;> first | with_reducible assumption | first | lia | grind [zu_at, zu_atL, zvn])
  refine zw_some ?_
  first | exact True.intro | ((try dsimp only); (repeat' apply And.intro) <;> first | with_reducible assumption | first | lia | grind [zu_at, zu_atL, zvn])
set_option maxHeartbeats 4000000 in
set_option maxRecDepth 100000 in
theorem sf_X12_mark (p1 : Int32) (v0_5 : Int32) (v0_6 : Int32) (v0_8 : Int32) (v0_9 : Int32) (f1 : Nat → Int32) (h_p1 : 0 ≤ p1 ∧ p1 ≤ 255) (h_v0_5 : 0 ≤ v0_5 ∧ v0_5 ≤ 1200) (h_v0_6 : 0 ≤ v0_6 ∧ v0_6 ≤ 1200) (h_v0_8 : 0 ≤ v0_8 ∧ v0_8 ≤ 4) (h_f1 : (∀ i : Nat, 0 ≤ f1 i ∧ f1 i ≤ 255)) : zw (fn_X12_mark p1 v0_5 v0_6 v0_8 v0_9 f1) (fun r => 0 ≤ r.1 ∧ r.1 ≤ 1200 ∧ 0 ≤ r.2.1 ∧ r.2.1 ≤ 4 ∧ v0_6 ≤ r.1 ∧ v0_8 ≤ r.2.1) := by
  unfold fn_X12_mark
  refine zw_zb0 (sf_X12_goesWell v0_8 (by first | with_reducible assumption | exact ⟨by with_reducible assumption, by with_reducible assumption⟩ | first | lia | grind [zu_at, zu_atL, zvn])) (fun o_1 ho_1 => ?_)
  obtain ⟨ho_1_0, ho_1_1, ho_1_2, ho_1_3, ho_1_4, ho_1_5⟩ := ho_1
  refine zw_if (fun c1 => ?_) (fun c1 => ?_)
  · refine zw_some ?_
    first | exact True.intro | ((try dsimp only); (repeat' apply And.intro) <;> first | with_reducible assumption | first | lia | grind [zu_at, zu_atL, zvn])
  refine zw_zb0 (sf_X12_here v0_5 v0_6 f1 (by first | with_reducible assumption | exact ⟨by with_reducible assumption, by with_reducible assumption⟩ | first | lia | grind [zu_at, zu_atL, zvn]) (by first | with_reducible assumption | exact ⟨by with_reducible assumption, by with_reducible assumption⟩ | first | lia | grind [zu_at, zu_atL, zvn]) (by first | with_reducible assumption | exact ⟨by with_reducible assumption, by with_reducible assumption⟩ | first | lia | grind [zu_at, zu_atL, zvn])) (fun o_6 ho_6 => ?_)
  obtain ⟨o_6_0, o_6_1⟩ := o_6
  try dsimp only at ho_6
  obtain ⟨ho_6_0, ho_6_1, ho_6_2, ho_6_3, ho_6_4, ho_6_5, ho_6_6⟩ := ho_6
  refine zw_if (fun c2 => ?_) (fun c2 => ?_)
  · refine zw_some ?_
    first | exact True.intro | ((try dsimp only); (repeat' apply And.intro) <;> first | with_reducible assumption | first | lia | grind [zu_at, zu_atL, zvn])
  refine zw_zb0 (sf_X12_faults 1 o_6_1 v0_8 v0_9 (by first | with_reducible assumption | exact ⟨by with_reducible assumption, by with_reducible assumption⟩ | first | lia | grind [zu_at, zu_atL, zvn]) (by first | with_reducible assumption | exact ⟨by with_reducible assumption, by with_reducible assumption⟩ | first | lia | grind [zu_at, zu_atL, zvn])) (fun o_11 ho_11 => ?_)
  obtain ⟨o_11_0, o_11_1⟩ := o_11
  try dsimp only at ho_11
  obtain ⟨ho_11_0, ho_11_1, ho_11_2, ho_11_3⟩ := ho_11
  refine zw_some ?_
  first | exact True.intro | ((try dsimp only); (repeat' apply And.intro) <;> first | with_reducible assumption | first | lia | grind [zu_at, zu_atL, zvn])
noncomputable def zTab (k : Nat) : Int32 := ([6, 15, 18, 13, 1, 20, 0, 19, 20, 5, 16, 0, 13, 15, 19, 20, 0, 3, 15, 19, 20, 0, 3, 1, 19, 20, 0, 9, 14, 16, 21, 20, 0, 12, 5, 20, 0, 13, 9, 14, 0, 13, 1, 24, 0, 6, 9, 24, 5, 4, 0, 7, 18, 15, 21, 16, 0, 1, 14, 19, 23, 5, 18, 0, 23, 9, 20, 8, 9, 14, 0] : List Int32).getD k 0
noncomputable def zPair (n k : Int32) : Prop := n = 0 ∧ k = 0 ∨ n = 1 ∧ k = 7 ∨ n = 2 ∧ k = 12 ∨ n = 3 ∧ k = 17 ∨ n = 4 ∧ k = 22 ∨ n = 5 ∧ k = 27 ∨ n = 6 ∧ k = 33 ∨ n = 7 ∧ k = 37 ∨ n = 8 ∧ k = 41 ∨ n = 9 ∧ k = 45 ∨ n = 10 ∧ k = 51 ∨ n = 11 ∧ k = 57 ∨ n = 12 ∧ k = 64 ∨ n = 13 ∧ k = 71
theorem zTab_ne {f1 : Nat → Int32} (hT : ∀ k : Nat, k < 71 → f1 k = zTab k) (c : Int32) (h : decide (c.toNatClampNeg < 71 ∧ ¬ zTab c.toNatClampNeg = 0) = true) : ¬ f1 c.toNatClampNeg = 0 := by
  have h := of_decide_eq_true h
  rw [hT _ h.1]; exact h.2
theorem zTab_eq {f1 : Nat → Int32} (hT : ∀ k : Nat, k < 71 → f1 k = zTab k) (c : Int32) (h : decide (c.toNatClampNeg < 71 ∧ zTab c.toNatClampNeg = 0) = true) : f1 c.toNatClampNeg = 0 := by
  have h := of_decide_eq_true h
  rw [hT _ h.1]; exact h.2
theorem zTabW (f1 : Nat → Int32) (hT : ∀ k : Nat, k < 71 → f1 k = zTab k) (n k : Int32) (hp : zPair n k) (hn : n ≤ 12) : ∃ e : Int32, 0 ≤ k ∧ k ≤ e ∧ e ≤ 70 ∧ f1 e.toNatClampNeg = 0 ∧ (∀ x : Int32, k ≤ x → x < e → ¬ f1 x.toNatClampNeg = 0) ∧ zPair (n + 1) (e + 1) := by
  unfold zPair at hp
  rcases hp with ⟨rfl, rfl⟩ | ⟨rfl, rfl⟩ | ⟨rfl, rfl⟩ | ⟨rfl, rfl⟩ | ⟨rfl, rfl⟩ | ⟨rfl, rfl⟩ | ⟨rfl, rfl⟩ | ⟨rfl, rfl⟩ | ⟨rfl, rfl⟩ | ⟨rfl, rfl⟩ | ⟨rfl, rfl⟩ | ⟨rfl, rfl⟩ | ⟨rfl, rfl⟩ | ⟨rfl, rfl⟩
  · refine ⟨6, by decide, by decide, by decide, zTab_eq hT 6 (by decide +kernel), fun x h1 h2 => ?_, ?_⟩
    · rcases (show x = 0 ∨ x = 1 ∨ x = 2 ∨ x = 3 ∨ x = 4 ∨ x = 5 by lia) with rfl | rfl | rfl | rfl | rfl | rfl
      · exact zTab_ne hT 0 (by decide +kernel)
      · exact zTab_ne hT 1 (by decide +kernel)
      · exact zTab_ne hT 2 (by decide +kernel)
      · exact zTab_ne hT 3 (by decide +kernel)
      · exact zTab_ne hT 4 (by decide +kernel)
      · exact zTab_ne hT 5 (by decide +kernel)
    · unfold zPair; exact Or.inr (Or.inl ⟨by decide, by decide⟩)
  · refine ⟨11, by decide, by decide, by decide, zTab_eq hT 11 (by decide +kernel), fun x h1 h2 => ?_, ?_⟩
    · rcases (show x = 7 ∨ x = 8 ∨ x = 9 ∨ x = 10 by lia) with rfl | rfl | rfl | rfl
      · exact zTab_ne hT 7 (by decide +kernel)
      · exact zTab_ne hT 8 (by decide +kernel)
      · exact zTab_ne hT 9 (by decide +kernel)
      · exact zTab_ne hT 10 (by decide +kernel)
    · unfold zPair; exact Or.inr (Or.inr (Or.inl ⟨by decide, by decide⟩))
  · refine ⟨16, by decide, by decide, by decide, zTab_eq hT 16 (by decide +kernel), fun x h1 h2 => ?_, ?_⟩
    · rcases (show x = 12 ∨ x = 13 ∨ x = 14 ∨ x = 15 by lia) with rfl | rfl | rfl | rfl
      · exact zTab_ne hT 12 (by decide +kernel)
      · exact zTab_ne hT 13 (by decide +kernel)
      · exact zTab_ne hT 14 (by decide +kernel)
      · exact zTab_ne hT 15 (by decide +kernel)
    · unfold zPair; exact Or.inr (Or.inr (Or.inr (Or.inl ⟨by decide, by decide⟩)))
  · refine ⟨21, by decide, by decide, by decide, zTab_eq hT 21 (by decide +kernel), fun x h1 h2 => ?_, ?_⟩
    · rcases (show x = 17 ∨ x = 18 ∨ x = 19 ∨ x = 20 by lia) with rfl | rfl | rfl | rfl
      · exact zTab_ne hT 17 (by decide +kernel)
      · exact zTab_ne hT 18 (by decide +kernel)
      · exact zTab_ne hT 19 (by decide +kernel)
      · exact zTab_ne hT 20 (by decide +kernel)
    · unfold zPair; exact Or.inr (Or.inr (Or.inr (Or.inr (Or.inl ⟨by decide, by decide⟩))))
  · refine ⟨26, by decide, by decide, by decide, zTab_eq hT 26 (by decide +kernel), fun x h1 h2 => ?_, ?_⟩
    · rcases (show x = 22 ∨ x = 23 ∨ x = 24 ∨ x = 25 by lia) with rfl | rfl | rfl | rfl
      · exact zTab_ne hT 22 (by decide +kernel)
      · exact zTab_ne hT 23 (by decide +kernel)
      · exact zTab_ne hT 24 (by decide +kernel)
      · exact zTab_ne hT 25 (by decide +kernel)
    · unfold zPair; exact Or.inr (Or.inr (Or.inr (Or.inr (Or.inr (Or.inl ⟨by decide, by decide⟩)))))
  · refine ⟨32, by decide, by decide, by decide, zTab_eq hT 32 (by decide +kernel), fun x h1 h2 => ?_, ?_⟩
    · rcases (show x = 27 ∨ x = 28 ∨ x = 29 ∨ x = 30 ∨ x = 31 by lia) with rfl | rfl | rfl | rfl | rfl
      · exact zTab_ne hT 27 (by decide +kernel)
      · exact zTab_ne hT 28 (by decide +kernel)
      · exact zTab_ne hT 29 (by decide +kernel)
      · exact zTab_ne hT 30 (by decide +kernel)
      · exact zTab_ne hT 31 (by decide +kernel)
    · unfold zPair; exact Or.inr (Or.inr (Or.inr (Or.inr (Or.inr (Or.inr (Or.inl ⟨by decide, by decide⟩))))))
  · refine ⟨36, by decide, by decide, by decide, zTab_eq hT 36 (by decide +kernel), fun x h1 h2 => ?_, ?_⟩
    · rcases (show x = 33 ∨ x = 34 ∨ x = 35 by lia) with rfl | rfl | rfl
      · exact zTab_ne hT 33 (by decide +kernel)
      · exact zTab_ne hT 34 (by decide +kernel)
      · exact zTab_ne hT 35 (by decide +kernel)
    · unfold zPair; exact Or.inr (Or.inr (Or.inr (Or.inr (Or.inr (Or.inr (Or.inr (Or.inl ⟨by decide, by decide⟩)))))))
  · refine ⟨40, by decide, by decide, by decide, zTab_eq hT 40 (by decide +kernel), fun x h1 h2 => ?_, ?_⟩
    · rcases (show x = 37 ∨ x = 38 ∨ x = 39 by lia) with rfl | rfl | rfl
      · exact zTab_ne hT 37 (by decide +kernel)
      · exact zTab_ne hT 38 (by decide +kernel)
      · exact zTab_ne hT 39 (by decide +kernel)
    · unfold zPair; exact Or.inr (Or.inr (Or.inr (Or.inr (Or.inr (Or.inr (Or.inr (Or.inr (Or.inl ⟨by decide, by decide⟩))))))))
  · refine ⟨44, by decide, by decide, by decide, zTab_eq hT 44 (by decide +kernel), fun x h1 h2 => ?_, ?_⟩
    · rcases (show x = 41 ∨ x = 42 ∨ x = 43 by lia) with rfl | rfl | rfl
      · exact zTab_ne hT 41 (by decide +kernel)
      · exact zTab_ne hT 42 (by decide +kernel)
      · exact zTab_ne hT 43 (by decide +kernel)
    · unfold zPair; exact Or.inr (Or.inr (Or.inr (Or.inr (Or.inr (Or.inr (Or.inr (Or.inr (Or.inr (Or.inl ⟨by decide, by decide⟩)))))))))
  · refine ⟨50, by decide, by decide, by decide, zTab_eq hT 50 (by decide +kernel), fun x h1 h2 => ?_, ?_⟩
    · rcases (show x = 45 ∨ x = 46 ∨ x = 47 ∨ x = 48 ∨ x = 49 by lia) with rfl | rfl | rfl | rfl | rfl
      · exact zTab_ne hT 45 (by decide +kernel)
      · exact zTab_ne hT 46 (by decide +kernel)
      · exact zTab_ne hT 47 (by decide +kernel)
      · exact zTab_ne hT 48 (by decide +kernel)
      · exact zTab_ne hT 49 (by decide +kernel)
    · unfold zPair; exact Or.inr (Or.inr (Or.inr (Or.inr (Or.inr (Or.inr (Or.inr (Or.inr (Or.inr (Or.inr (Or.inl ⟨by decide, by decide⟩))))))))))
  · refine ⟨56, by decide, by decide, by decide, zTab_eq hT 56 (by decide +kernel), fun x h1 h2 => ?_, ?_⟩
    · rcases (show x = 51 ∨ x = 52 ∨ x = 53 ∨ x = 54 ∨ x = 55 by lia) with rfl | rfl | rfl | rfl | rfl
      · exact zTab_ne hT 51 (by decide +kernel)
      · exact zTab_ne hT 52 (by decide +kernel)
      · exact zTab_ne hT 53 (by decide +kernel)
      · exact zTab_ne hT 54 (by decide +kernel)
      · exact zTab_ne hT 55 (by decide +kernel)
    · unfold zPair; exact Or.inr (Or.inr (Or.inr (Or.inr (Or.inr (Or.inr (Or.inr (Or.inr (Or.inr (Or.inr (Or.inr (Or.inl ⟨by decide, by decide⟩)))))))))))
  · refine ⟨63, by decide, by decide, by decide, zTab_eq hT 63 (by decide +kernel), fun x h1 h2 => ?_, ?_⟩
    · rcases (show x = 57 ∨ x = 58 ∨ x = 59 ∨ x = 60 ∨ x = 61 ∨ x = 62 by lia) with rfl | rfl | rfl | rfl | rfl | rfl
      · exact zTab_ne hT 57 (by decide +kernel)
      · exact zTab_ne hT 58 (by decide +kernel)
      · exact zTab_ne hT 59 (by decide +kernel)
      · exact zTab_ne hT 60 (by decide +kernel)
      · exact zTab_ne hT 61 (by decide +kernel)
      · exact zTab_ne hT 62 (by decide +kernel)
    · unfold zPair; exact Or.inr (Or.inr (Or.inr (Or.inr (Or.inr (Or.inr (Or.inr (Or.inr (Or.inr (Or.inr (Or.inr (Or.inr (Or.inl ⟨by decide, by decide⟩))))))))))))
  · refine ⟨70, by decide, by decide, by decide, zTab_eq hT 70 (by decide +kernel), fun x h1 h2 => ?_, ?_⟩
    · rcases (show x = 64 ∨ x = 65 ∨ x = 66 ∨ x = 67 ∨ x = 68 ∨ x = 69 by lia) with rfl | rfl | rfl | rfl | rfl | rfl
      · exact zTab_ne hT 64 (by decide +kernel)
      · exact zTab_ne hT 65 (by decide +kernel)
      · exact zTab_ne hT 66 (by decide +kernel)
      · exact zTab_ne hT 67 (by decide +kernel)
      · exact zTab_ne hT 68 (by decide +kernel)
      · exact zTab_ne hT 69 (by decide +kernel)
    · unfold zPair; exact Or.inr (Or.inr (Or.inr (Or.inr (Or.inr (Or.inr (Or.inr (Or.inr (Or.inr (Or.inr (Or.inr (Or.inr (Or.inr (⟨by decide, by decide⟩)))))))))))))
  · exact absurd hn (by decide)
set_option maxHeartbeats 4000000 in
theorem sf_X12_own (v0_6 : Int32) (v0_7 : Int32) (f1 : Nat → Int32) (f2 : Nat → Int32) (h_v0_6 : 0 ≤ v0_6 ∧ v0_6 ≤ 1200) (h_v0_7 : 0 ≤ v0_7 ∧ v0_7 ≤ 1200) (hf2 : True) (hT : (∀ k : Nat, k < 71 → f1 k = zTab k)) : zw (fn_X12_own v0_6 v0_7 f1 f2) (fun r => (-1) ≤ r ∧ r ≤ 12) := by
  unfold fn_X12_own
  refine zw_zl32 (fun s_1 => zPair s_1.2 s_1.1 ∧ 0 ≤ s_1.2 ∧ s_1.2 ≤ 13) (fun s_1 => 13 - s_1.2) ⟨Or.inl ⟨rfl, rfl⟩, by decide, by decide⟩ (by decide) (fun s_1 back_1 H1 h1 => ?_)
  obtain ⟨kk, nn⟩ := s_1
  dsimp only at H1 h1 ⊢
  obtain ⟨hpair, hn0, hn1⟩ := H1
  refine zw_if (fun c1 => ?_) (fun c1 => ?_)
  · refine zw_some ?_
    decide
  obtain ⟨e, he0, he1, he2, he3, he4, he5⟩ := zTabW f1 hT nn kk hpair (by lia)
  clear hpair hT
  have J : zw (zl (fun (s_8 : Int32) back_8 => (zg s_8 71 (if (f1 s_8.toNatClampNeg) = 0 then (back_1 ((s_8 + 1), (nn + 1))) else (back_8 (s_8 + 1))))) 100000 kk) (fun r => (-1) ≤ r ∧ r ≤ 12) := by
    refine zw_zl32 (fun s_8 => kk ≤ s_8 ∧ s_8 ≤ e) (fun s_8 => e - s_8) ⟨by lia, he1⟩ (by lia) (fun s_8 back_8 H8 h8 => ?_)
    obtain ⟨H8a, H8b⟩ := H8
    refine zw_zg32 71 (by decide) ⟨by lia, by lia⟩ ?_
    refine zw_if (fun c2 => ?_) (fun c2 => ?_)
    · have hq : s_8 = e := by
        by_cases q : s_8 < e
        · exact absurd c2 (he4 s_8 H8a q)
        · lia
      rw [hq]
      exact h1 _ ⟨he5, by dsimp only; lia, by dsimp only; lia⟩ (by dsimp only; lia) (by dsimp only; lia)
    · have hq : ¬ s_8 = e := by intro hq; rw [hq] at c2; exact c2 he3
      exact h8 _ ⟨by lia, by lia⟩ (by lia) (by lia)
  refine zw_zl32 (fun s_3 => 0 ≤ s_3 ∧ kk + s_3 ≤ e ∧ s_3 ≤ 70) (fun s_3 => e - (kk + s_3)) ⟨by decide, by lia, by decide⟩ (by lia) (fun s_3 back_3 H3 h3 => ?_)
  obtain ⟨m0, m1, m2⟩ := H3
  refine zw_zg32 71 (by decide) ⟨by lia, by lia⟩ ?_
  refine zw_zj (fun _ => True) (fun s_5 _ => ?_) (fun j_5 hj5 => ?_)
  · refine zw_zg32 71 (by decide) ⟨by lia, by lia⟩ ?_
    refine zw_zj (fun _ => True) (fun s_7 _ => J) (fun j_7 hj7 => ?_)
    refine zw_if (fun c3 => ?_) (fun c3 => ?_)
    · refine zw_if (fun c4 => ?_) (fun c4 => ?_)
      · refine zw_some ?_
        exact ⟨by lia, by lia⟩
      exact hj7 _ trivial
    exact hj7 _ trivial
  refine zw_if (fun c3 => ?_) (fun c3 => ?_)
  · exact hj5 _ trivial
  refine zw_if (fun c4 => ?_) (fun c4 => ?_)
  · exact hj5 _ trivial
  refine zw_zg32 1200 (by decide) ⟨by lia, by lia⟩ ?_
  refine zw_if (fun c5 => ?_) (fun c5 => ?_)
  · have hq : ¬ kk + s_3 = e := by intro hq; rw [hq] at c3; exact c3 he3
    exact h3 _ ⟨by lia, by lia, by lia⟩ (by lia) (by lia)
  exact hj5 _ trivial
set_option maxHeartbeats 4000000 in
set_option maxRecDepth 100000 in
theorem sf_X12_word (v0_5 : Int32) (v0_6 : Int32) (v0_7 : Int32) (v0_8 : Int32) (v0_9 : Int32) (f1 : Nat → Int32) (h_v0_5 : 0 ≤ v0_5 ∧ v0_5 ≤ 1200) (h_v0_6 : 0 ≤ v0_6 ∧ v0_6 ≤ 1200) (h_v0_7 : 0 ≤ v0_7 ∧ v0_7 ≤ 1200) (h_v0_8 : 0 ≤ v0_8 ∧ v0_8 ≤ 4) (h_f1 : (∀ i : Nat, 0 ≤ f1 i ∧ f1 i ≤ 255)) : zw (fn_X12_word v0_5 v0_6 v0_7 v0_8 v0_9 f1) (fun r => 0 ≤ r.1 ∧ r.1 ≤ 1200 ∧ 0 ≤ r.2.1 ∧ r.2.1 ≤ 1200 ∧ 0 ≤ r.2.2.1 ∧ r.2.2.1 ≤ 4 ∧ v0_6 ≤ r.1 ∧ v0_8 ≤ r.2.2.1) := by
  unfold fn_X12_word
  refine zw_zb0 (sf_X12_goesWell v0_8 (by first | with_reducible assumption | exact ⟨by with_reducible assumption, by with_reducible assumption⟩ | first | lia | grind [zu_at, zu_atL, zvn])) (fun o_1 ho_1 => ?_)
  obtain ⟨ho_1_0, ho_1_1, ho_1_2, ho_1_3, ho_1_4, ho_1_5⟩ := ho_1
  refine zw_if (fun c1 => ?_) (fun c1 => ?_)
  · refine zw_some ?_
    first | exact True.intro | ((try dsimp only); (repeat' apply And.intro) <;> first | with_reducible assumption | first | lia | grind [zu_at, zu_atL, zvn])
  refine zw_zb0 (sf_X12_here v0_5 v0_6 f1 (by first | with_reducible assumption | exact ⟨by with_reducible assumption, by with_reducible assumption⟩ | first | lia | grind [zu_at, zu_atL, zvn]) (by first | with_reducible assumption | exact ⟨by with_reducible assumption, by with_reducible assumption⟩ | first | lia | grind [zu_at, zu_atL, zvn]) (by first | with_reducible assumption | exact ⟨by with_reducible assumption, by with_reducible assumption⟩ | first | lia | grind [zu_at, zu_atL, zvn])) (fun o_6 ho_6 => ?_)
  obtain ⟨o_6_0, o_6_1⟩ := o_6
  try dsimp only at ho_6
  obtain ⟨ho_6_0, ho_6_1, ho_6_2, ho_6_3, ho_6_4, ho_6_5, ho_6_6⟩ := ho_6
  refine zw_zb0 (sf_X12_isSmall o_6_1 v0_5 f1 (by first | with_reducible assumption | exact ⟨by with_reducible assumption, by with_reducible assumption⟩ | first | lia | grind [zu_at, zu_atL, zvn]) (by first | with_reducible assumption | exact ⟨by with_reducible assumption, by with_reducible assumption⟩ | first | lia | grind [zu_at, zu_atL, zvn])) (fun o_10 ho_10 => ?_)
  obtain ⟨ho_10_0, ho_10_1, ho_10_2, ho_10_3, ho_10_4, ho_10_5⟩ := ho_10
  refine zw_if (fun c2 => ?_) (fun c2 => ?_)
  · refine zw_zb0 (sf_X12_faults 1 o_6_1 v0_8 v0_9 (by first | with_reducible assumption | exact ⟨by with_reducible assumption, by with_reducible assumption⟩ | first | lia | grind [zu_at, zu_atL, zvn]) (by first | with_reducible assumption | exact ⟨by with_reducible assumption, by with_reducible assumption⟩ | first | lia | grind [zu_at, zu_atL, zvn])) (fun o_15 ho_15 => ?_)
    obtain ⟨o_15_0, o_15_1⟩ := o_15
    try dsimp only at ho_15
    obtain ⟨ho_15_0, ho_15_1, ho_15_2, ho_15_3⟩ := ho_15
    refine zw_some ?_
    first | exact True.intro | ((try dsimp only); (repeat' apply And.intro) <;> first | with_reducible assumption | first | lia | grind [zu_at, zu_atL, zvn])
  refine zw_zb0 (sf_X12_isSmall (o_6_1 - 1) v0_5 f1 (by first | with_reducible assumption | exact ⟨by with_reducible assumption, by with_reducible assumption⟩ | first | lia | grind [zu_at, zu_atL, zvn]) (by first | with_reducible assumption | exact ⟨by with_reducible assumption, by with_reducible assumption⟩ | first | lia | grind [zu_at, zu_atL, zvn])) (fun o_19 ho_19 => ?_)
  obtain ⟨ho_19_0, ho_19_1, ho_19_2, ho_19_3, ho_19_4, ho_19_5⟩ := ho_19
  refine zw_if (fun c3 => ?_) (fun c3 => ?_)
  · refine zw_zb0 (sf_X12_isDigit (o_6_1 - 1) v0_5 f1 (by first | with_reducible assumption | exact ⟨by with_reducible assumption, by with_reducible assumption⟩ | first | lia | grind [zu_at, zu_atL, zvn]) (by first | with_reducible assumption | exact ⟨by with_reducible assumption, by with_reducible assumption⟩ | first | lia | grind [zu_at, zu_atL, zvn])) (fun o_28 ho_28 => ?_)
    obtain ⟨ho_28_0, ho_28_1, ho_28_2, ho_28_3, ho_28_4, ho_28_5⟩ := ho_28
    refine zw_if (fun c4 => ?_) (fun c4 => ?_)
    · refine zw_zl32 (fun s_33 => 0 ≤ s_33 ∧ s_33 ≤ 1200 ∧ s_33 ≤ v0_5 ∧ v0_6 ≤ s_33 ∧ o_6_1 ≤ s_33) (fun s_33 => 1200 - s_33) (by (try dsimp only); (repeat' apply And.intro) <;> first | with_reducible assumption | first | lia | grind [zu_at, zu_atL, zvn]) (by (try dsimp only); first | lia | grind [zu_at, zu_atL, zvn]) (fun s_33 back_33 Hback_33 hback_33 => ?_)
      obtain ⟨Hback_33_0, Hback_33_1, Hback_33_2, Hback_33_3, Hback_33_4⟩ := Hback_33
      refine zw_zb0 (sf_X12_isSmall s_33 v0_5 f1 (by first | with_reducible assumption | exact ⟨by with_reducible assumption, by with_reducible assumption⟩ | ((try clear hback_33); first | lia | grind [zu_at, zu_atL, zvn])) (by first | with_reducible assumption | exact ⟨by with_reducible assumption, by with_reducible assumption⟩ | ((try clear hback_33); first | lia | grind [zu_at, zu_atL, zvn]))) (fun o_34 ho_34 => ?_)
      obtain ⟨ho_34_0, ho_34_1, ho_34_2, ho_34_3, ho_34_4, ho_34_5⟩ := ho_34
      refine zw_if (fun c5 => ?_) (fun c5 => ?_)
      · refine zw_some ?_
        first | exact True.intro | ((try dsimp only); (repeat' apply And.intro) <;> first | with_reducible assumption | ((try clear hback_33); first | lia | grind [zu_at, zu_atL, zvn]))
      exact hback_33 _ (by (try dsimp only); (repeat' apply And.intro) <;> first | with_reducible assumption | ((try clear hback_33); first | lia | grind [zu_at, zu_atL, zvn])) (by (try dsimp only); ((try clear hback_33); first | lia | grind [zu_at, zu_atL, zvn])) (by (try dsimp only); ((try clear hback_33); first | lia | grind [zu_at, zu_atL, zvn]))
    refine zw_zb0 (sf_X12_faults 1 o_6_1 v0_8 v0_9 (by first | with_reducible assumption | exact ⟨by with_reducible assumption, by with_reducible assumption⟩ | ((try clear hback_33); first | lia | grind [zu_at, zu_atL, zvn])) (by first | with_reducible assumption | exact ⟨by with_reducible assumption, by with_reducible assumption⟩ | ((try clear hback_33); first | lia | grind [zu_at, zu_atL, zvn]))) (fun o_39 ho_39 => ?_)
    obtain ⟨o_39_0, o_39_1⟩ := o_39
    try dsimp only at ho_39
    obtain ⟨ho_39_0, ho_39_1, ho_39_2, ho_39_3⟩ := ho_39
    refine zw_some ?_
    first | exact True.intro | ((try dsimp only); (repeat' apply And.intro) <;> first | with_reducible assumption | ((try clear hback_33); first | lia | grind [zu_at, zu_atL, zvn]))
  refine zw_zb0 (sf_X12_faults 1 o_6_1 v0_8 v0_9 (by first | with_reducible assumption | exact ⟨by with_reducible assumption, by with_reducible assumption⟩ | ((try clear hback_33); first | lia | grind [zu_at, zu_atL, zvn])) (by first | with_reducible assumption | exact ⟨by with_reducible assumption, by with_reducible assumption⟩ | ((try clear hback_33); first | lia | grind [zu_at, zu_atL, zvn]))) (fun o_24 ho_24 => ?_)
  obtain ⟨o_24_0, o_24_1⟩ := o_24
  try dsimp only at ho_24
  obtain ⟨ho_24_0, ho_24_1, ho_24_2, ho_24_3⟩ := ho_24
  refine zw_some ?_
  first | exact True.intro | ((try dsimp only); (repeat' apply And.intro) <;> first | with_reducible assumption | ((try clear hback_33); first | lia | grind [zu_at, zu_atL, zvn]))
set_option maxHeartbeats 4000000 in
set_option maxRecDepth 100000 in
theorem sf_X12_must (p1 : Int32) (v0_5 : Int32) (v0_6 : Int32) (v0_7 : Int32) (v0_8 : Int32) (v0_9 : Int32) (f1 : Nat → Int32) (f2 : Nat → Int32) (h_v0_5 : 0 ≤ v0_5 ∧ v0_5 ≤ 1200) (h_v0_6 : 0 ≤ v0_6 ∧ v0_6 ≤ 1200) (h_v0_7 : 0 ≤ v0_7 ∧ v0_7 ≤ 1200) (h_v0_8 : 0 ≤ v0_8 ∧ v0_8 ≤ 4) (h_f1 : (∀ i : Nat, 0 ≤ f1 i ∧ f1 i ≤ 255)) (hx_0 : (∀ k : Nat, k < 71 → f2 k = zTab k)) : zw (fn_X12_must p1 v0_5 v0_6 v0_7 v0_8 v0_9 f1 f2) (fun r => 0 ≤ r.1 ∧ r.1 ≤ 1200 ∧ 0 ≤ r.2.1 ∧ r.2.1 ≤ 1200 ∧ 0 ≤ r.2.2.1 ∧ r.2.2.1 ≤ 4 ∧ v0_6 ≤ r.1 ∧ v0_8 ≤ r.2.2.1) := by
  unfold fn_X12_must
  refine zw_zb0 (sf_X12_word v0_5 v0_6 v0_7 v0_8 v0_9 f1 (by first | with_reducible assumption | exact ⟨by with_reducible assumption, by with_reducible assumption⟩ | first | lia | grind [zu_at, zu_atL, zvn]) (by first | with_reducible assumption | exact ⟨by with_reducible assumption, by with_reducible assumption⟩ | first | lia | grind [zu_at, zu_atL, zvn]) (by first | with_reducible assumption | exact ⟨by with_reducible assumption, by with_reducible assumption⟩ | first | lia | grind [zu_at, zu_atL, zvn]) (by first | with_reducible assumption | exact ⟨by with_reducible assumption, by with_reducible assumption⟩ | first | lia | grind [zu_at, zu_atL, zvn]) (by first | with_reducible assumption | exact ⟨by with_reducible assumption, by with_reducible assumption⟩ | first | lia | grind [zu_at, zu_atL, zvn])) (fun o_1 ho_1 => ?_)
  obtain ⟨o_1_0, o_1_1, o_1_2, o_1_3⟩ := o_1
  try dsimp only at ho_1
  obtain ⟨ho_1_0, ho_1_1, ho_1_2, ho_1_3, ho_1_4, ho_1_5, ho_1_6, ho_1_7⟩ := ho_1
  refine zw_zb0 (sf_X12_goesWell o_1_2 (by first | with_reducible assumption | exact ⟨by with_reducible assumption, by with_reducible assumption⟩ | first | lia | grind [zu_at, zu_atL, zvn])) (fun o_5 ho_5 => ?_)
  obtain ⟨ho_5_0, ho_5_1, ho_5_2, ho_5_3, ho_5_4, ho_5_5⟩ := ho_5
  refine zw_if (fun c1 => ?_) (fun c1 => ?_)
  · refine zw_some ?_
    first | exact True.intro | ((try dsimp only); (repeat' apply And.intro) <;> first | with_reducible assumption | first | lia | grind [zu_at, zu_atL, zvn])
  refine zw_zb0 (sf_X12_own o_1_0 o_1_1 f2 f1 (by first | with_reducible assumption | exact ⟨by with_reducible assumption, by with_reducible assumption⟩ | first | lia | grind [zu_at, zu_atL, zvn]) (by first | with_reducible assumption | exact ⟨by with_reducible assumption, by with_reducible assumption⟩ | first | lia | grind [zu_at, zu_atL, zvn]) (by first | with_reducible assumption | exact ⟨by with_reducible assumption, by with_reducible assumption⟩ | first | lia | grind [zu_at, zu_atL, zvn]) (by first | with_reducible assumption | exact ⟨by with_reducible assumption, by with_reducible assumption⟩ | first | lia | grind [zu_at, zu_atL, zvn])) (fun o_10 ho_10 => ?_)
  obtain ⟨ho_10_0, ho_10_1⟩ := ho_10
  refine zw_if (fun c2 => ?_) (fun c2 => ?_)
  · refine zw_some ?_
    first | exact True.intro | ((try dsimp only); (repeat' apply And.intro) <;> first | with_reducible assumption | first | lia | grind [zu_at, zu_atL, zvn])
  refine zw_zb0 (sf_X12_faults 1 o_1_1 o_1_2 o_1_3 (by first | with_reducible assumption | exact ⟨by with_reducible assumption, by with_reducible assumption⟩ | first | lia | grind [zu_at, zu_atL, zvn]) (by first | with_reducible assumption | exact ⟨by with_reducible assumption, by with_reducible assumption⟩ | first | lia | grind [zu_at, zu_atL, zvn])) (fun o_15 ho_15 => ?_)
  obtain ⟨o_15_0, o_15_1⟩ := o_15
  try dsimp only at ho_15
  obtain ⟨ho_15_0, ho_15_1, ho_15_2, ho_15_3⟩ := ho_15
  refine zw_some ?_
  first | exact True.intro | ((try dsimp only); (repeat' apply And.intro) <;> first | with_reducible assumption | first | lia | grind [zu_at, zu_atL, zvn])
set_option maxHeartbeats 4000000 in
set_option maxRecDepth 100000 in
theorem sf_X12_name (v0_5 : Int32) (v0_6 : Int32) (v0_7 : Int32) (v0_8 : Int32) (v0_9 : Int32) (f1 : Nat → Int32) (f2 : Nat → Int32) (h_v0_5 : 0 ≤ v0_5 ∧ v0_5 ≤ 1200) (h_v0_6 : 0 ≤ v0_6 ∧ v0_6 ≤ 1200) (h_v0_7 : 0 ≤ v0_7 ∧ v0_7 ≤ 1200) (h_v0_8 : 0 ≤ v0_8 ∧ v0_8 ≤ 4) (h_f1 : (∀ i : Nat, 0 ≤ f1 i ∧ f1 i ≤ 255)) (hx_0 : (∀ k : Nat, k < 71 → f2 k = zTab k)) : zw (fn_X12_name v0_5 v0_6 v0_7 v0_8 v0_9 f1 f2) (fun r => 0 ≤ r.2.1 ∧ r.2.1 ≤ 1200 ∧ 0 ≤ r.2.2.1 ∧ r.2.2.1 ≤ 1200 ∧ 0 ≤ r.2.2.2.1 ∧ r.2.2.2.1 ≤ 4 ∧ v0_6 ≤ r.2.1 ∧ v0_8 ≤ r.2.2.2.1) := by
  unfold fn_X12_name
  refine zw_zb0 (sf_X12_word v0_5 v0_6 v0_7 v0_8 v0_9 f1 (by first | with_reducible assumption | exact ⟨by with_reducible assumption, by with_reducible assumption⟩ | first | lia | grind [zu_at, zu_atL, zvn]) (by first | with_reducible assumption | exact ⟨by with_reducible assumption, by with_reducible assumption⟩ | first | lia | grind [zu_at, zu_atL, zvn]) (by first | with_reducible assumption | exact ⟨by with_reducible assumption, by with_reducible assumption⟩ | first | lia | grind [zu_at, zu_atL, zvn]) (by first | with_reducible assumption | exact ⟨by with_reducible assumption, by with_reducible assumption⟩ | first | lia | grind [zu_at, zu_atL, zvn]) (by first | with_reducible assumption | exact ⟨by with_reducible assumption, by with_reducible assumption⟩ | first | lia | grind [zu_at, zu_atL, zvn])) (fun o_1 ho_1 => ?_)
  obtain ⟨o_1_0, o_1_1, o_1_2, o_1_3⟩ := o_1
  try dsimp only at ho_1
  obtain ⟨ho_1_0, ho_1_1, ho_1_2, ho_1_3, ho_1_4, ho_1_5, ho_1_6, ho_1_7⟩ := ho_1
  refine zw_zb0 (sf_X12_goesWell o_1_2 (by first | with_reducible assumption | exact ⟨by with_reducible assumption, by with_reducible assumption⟩ | first | lia | grind [zu_at, zu_atL, zvn])) (fun o_5 ho_5 => ?_)
  obtain ⟨ho_5_0, ho_5_1, ho_5_2, ho_5_3, ho_5_4, ho_5_5⟩ := ho_5
  refine zw_zj (fun s_9 => 0 ≤ s_9.1 ∧ s_9.1 ≤ 4 ∧ v0_8 ≤ s_9.1 ∧ o_1_2 ≤ s_9.1) (fun s_9 Hj_9 => ?_) (fun j_9 hj_9 => ?_)
  · obtain ⟨s_9_0, s_9_1⟩ := s_9
    try dsimp only at Hj_9
    obtain ⟨Hj_9_0, Hj_9_1, Hj_9_2, Hj_9_3⟩ := Hj_9
    refine zw_zl32 (fun s_10 => (-1) ≤ s_10.2 ∧ s_10.2 ≤ 1199 ∧ s_10.2 < o_1_0) (fun s_10 => s_10.2 - (-1)) (by (try dsimp only); (repeat' apply And.intro) <;> first | with_reducible assumption | ((try clear hj_9); first | lia | grind [zu_at, zu_atL, zvn])) (by (try dsimp only); ((try clear hj_9); first | lia | grind [zu_at, zu_atL, zvn])) (fun s_10 back_10 Hback_10 hback_10 => ?_)
    obtain ⟨s_10_0, s_10_1⟩ := s_10
    try dsimp only at Hback_10 hback_10
    obtain ⟨Hback_10_0, Hback_10_1, Hback_10_2⟩ := Hback_10
    refine zw_if (fun c1 => ?_) (fun c1 => ?_)
    · refine zw_zb0 (sf_X12_goesWell s_9_0 (by first | with_reducible assumption | exact ⟨by with_reducible assumption, by with_reducible assumption⟩ | ((try clear hj_9); (try clear hback_10); first | lia | grind [zu_at, zu_atL, zvn]))) (fun o_12 ho_12 => ?_)
      obtain ⟨ho_12_0, ho_12_1, ho_12_2, ho_12_3, ho_12_4, ho_12_5⟩ := ho_12
      refine zw_if (fun c2 => ?_) (fun c2 => ?_)
      · refine zw_some ?_
        first | exact True.intro | ((try dsimp only); (repeat' apply And.intro) <;> first | with_reducible assumption | ((try clear hj_9); (try clear hback_10); first | lia | grind [zu_at, zu_atL, zvn]))
      refine zw_some ?_
      first | exact True.intro | ((try dsimp only); (repeat' apply And.intro) <;> first | with_reducible assumption | ((try clear hj_9); (try clear hback_10); first | lia | grind [zu_at, zu_atL, zvn]))
    refine zw_zb0 (sf_X12_goesWell s_9_0 (by first | with_reducible assumption | exact ⟨by with_reducible assumption, by with_reducible assumption⟩ | ((try clear hj_9); (try clear hback_10); first | lia | grind [zu_at, zu_atL, zvn]))) (fun o_17 ho_17 => ?_)
    obtain ⟨ho_17_0, ho_17_1, ho_17_2, ho_17_3, ho_17_4, ho_17_5⟩ := ho_17
    refine zw_if (fun c3 => ?_) (fun c3 => ?_)
    · refine zw_zb0 (sf_X12_goesWell s_9_0 (by first | with_reducible assumption | exact ⟨by with_reducible assumption, by with_reducible assumption⟩ | ((try clear hj_9); (try clear hback_10); first | lia | grind [zu_at, zu_atL, zvn]))) (fun o_22 ho_22 => ?_)
      obtain ⟨ho_22_0, ho_22_1, ho_22_2, ho_22_3, ho_22_4, ho_22_5⟩ := ho_22
      refine zw_if (fun c4 => ?_) (fun c4 => ?_)
      · refine zw_some ?_
        first | exact True.intro | ((try dsimp only); (repeat' apply And.intro) <;> first | with_reducible assumption | ((try clear hj_9); (try clear hback_10); first | lia | grind [zu_at, zu_atL, zvn]))
      refine zw_some ?_
      first | exact True.intro | ((try dsimp only); (repeat' apply And.intro) <;> first | with_reducible assumption | ((try clear hj_9); (try clear hback_10); first | lia | grind [zu_at, zu_atL, zvn]))
    refine zw_zg32 1200 (by decide) (by (try dsimp only); ((try clear hj_9); (try clear hback_10); first | lia | grind [zu_at, zu_atL, zvn])) ?_
    exact hback_10 _ (by (try dsimp only); (repeat' apply And.intro) <;> first | with_reducible assumption | ((try clear hj_9); (try clear hback_10); first | lia | grind [zu_at, zu_atL, zvn])) (by (try dsimp only); ((try clear hj_9); (try clear hback_10); first | lia | grind [zu_at, zu_atL, zvn])) (by (try dsimp only); ((try clear hj_9); (try clear hback_10); first | lia | grind [zu_at, zu_atL, zvn]))
  refine zw_if (fun c5 => ?_) (fun c5 => ?_)
  · exact hj_9 _ (by first | exact True.intro | ((try dsimp only); (repeat' apply And.intro) <;> first | with_reducible assumption | ((try clear hj_9); (try clear hback_10); first | lia | grind [zu_at, zu_atL, zvn])))
  refine zw_zb0 (sf_X12_own o_1_0 o_1_1 f2 f1 (by first | with_reducible assumption | exact ⟨by with_reducible assumption, by with_reducible assumption⟩ | ((try clear hj_9); (try clear hback_10); first | lia | grind [zu_at, zu_atL, zvn])) (by first | with_reducible assumption | exact ⟨by with_reducible assumption, by with_reducible assumption⟩ | ((try clear hj_9); (try clear hback_10); first | lia | grind [zu_at, zu_atL, zvn])) (by first | with_reducible assumption | exact ⟨by with_reducible assumption, by with_reducible assumption⟩ | ((try clear hj_9); (try clear hback_10); first | lia | grind [zu_at, zu_atL, zvn])) (by first | with_reducible assumption | exact ⟨by with_reducible assumption, by with_reducible assumption⟩ | ((try clear hj_9); (try clear hback_10); first | lia | grind [zu_at, zu_atL, zvn]))) (fun o_29 ho_29 => ?_)
  obtain ⟨ho_29_0, ho_29_1⟩ := ho_29
  refine zw_zj (fun _ => True) (fun s_33 Hj_33 => ?_) (fun j_33 hj_33 => ?_)
  · refine zw_zb0 (sf_X12_faults 1 o_1_1 o_1_2 o_1_3 (by first | with_reducible assumption | exact ⟨by with_reducible assumption, by with_reducible assumption⟩ | ((try clear hj_9); (try clear hback_10); (try clear hj_33); first | lia | grind [zu_at, zu_atL, zvn])) (by first | with_reducible assumption | exact ⟨by with_reducible assumption, by with_reducible assumption⟩ | ((try clear hj_9); (try clear hback_10); (try clear hj_33); first | lia | grind [zu_at, zu_atL, zvn]))) (fun o_34 ho_34 => ?_)
    obtain ⟨o_34_0, o_34_1⟩ := o_34
    try dsimp only at ho_34
    obtain ⟨ho_34_0, ho_34_1, ho_34_2, ho_34_3⟩ := ho_34
    exact hj_9 _ (by first | exact True.intro | ((try dsimp only); (repeat' apply And.intro) <;> first | with_reducible assumption | ((try clear hj_9); (try clear hback_10); (try clear hj_33); first | lia | grind [zu_at, zu_atL, zvn])))
  refine zw_if (fun c6 => ?_) (fun c6 => ?_)
  · refine zw_if (fun c7 => ?_) (fun c7 => ?_)
    · exact hj_9 _ (by first | exact True.intro | ((try dsimp only); (repeat' apply And.intro) <;> first | with_reducible assumption | ((try clear hj_9); (try clear hback_10); (try clear hj_33); first | lia | grind [zu_at, zu_atL, zvn])))
    exact hj_33 _ (by first | exact True.intro | ((try dsimp only); (repeat' apply And.intro) <;> first | with_reducible assumption | ((try clear hj_9); (try clear hback_10); (try clear hj_33); first | lia | grind [zu_at, zu_atL, zvn])))
  exact hj_33 _ (by first | exact True.intro | ((try dsimp only); (repeat' apply And.intro) <;> first | with_reducible assumption | ((try clear hj_9); (try clear hback_10); (try clear hj_33); first | lia | grind [zu_at, zu_atL, zvn])))
set_option maxHeartbeats 4000000 in
set_option maxRecDepth 100000 in
theorem sf_X12_digits (v0_5 : Int32) (v0_6 : Int32) (v0_7 : Int32) (v0_8 : Int32) (v0_9 : Int32) (f1 : Nat → Int32) (h_v0_5 : 0 ≤ v0_5 ∧ v0_5 ≤ 1200) (h_v0_6 : 0 ≤ v0_6 ∧ v0_6 ≤ 1200) (h_v0_7 : 0 ≤ v0_7 ∧ v0_7 ≤ 1200) (h_v0_8 : 0 ≤ v0_8 ∧ v0_8 ≤ 4) (h_f1 : (∀ i : Nat, 0 ≤ f1 i ∧ f1 i ≤ 255)) : zw (fn_X12_digits v0_5 v0_6 v0_7 v0_8 v0_9 f1) (fun r => 0 ≤ r.2.1 ∧ r.2.1 ≤ 1200 ∧ 0 ≤ r.2.2.1 ∧ r.2.2.1 ≤ 1200 ∧ 0 ≤ r.2.2.2.1 ∧ r.2.2.2.1 ≤ 4 ∧ v0_6 ≤ r.2.1 ∧ v0_8 ≤ r.2.2.2.1) := by
  unfold fn_X12_digits
  refine zw_zb0 (sf_X12_goesWell v0_8 (by first | with_reducible assumption | exact ⟨by with_reducible assumption, by with_reducible assumption⟩ | first | lia | grind [zu_at, zu_atL, zvn])) (fun o_1 ho_1 => ?_)
  obtain ⟨ho_1_0, ho_1_1, ho_1_2, ho_1_3, ho_1_4, ho_1_5⟩ := ho_1
  refine zw_if (fun c1 => ?_) (fun c1 => ?_)
  · refine zw_some ?_
    first | exact True.intro | ((try dsimp only); (repeat' apply And.intro) <;> first | with_reducible assumption | first | lia | grind [zu_at, zu_atL, zvn])
  refine zw_zb0 (sf_X12_here v0_5 v0_6 f1 (by first | with_reducible assumption | exact ⟨by with_reducible assumption, by with_reducible assumption⟩ | first | lia | grind [zu_at, zu_atL, zvn]) (by first | with_reducible assumption | exact ⟨by with_reducible assumption, by with_reducible assumption⟩ | first | lia | grind [zu_at, zu_atL, zvn]) (by first | with_reducible assumption | exact ⟨by with_reducible assumption, by with_reducible assumption⟩ | first | lia | grind [zu_at, zu_atL, zvn])) (fun o_6 ho_6 => ?_)
  obtain ⟨o_6_0, o_6_1⟩ := o_6
  try dsimp only at ho_6
  obtain ⟨ho_6_0, ho_6_1, ho_6_2, ho_6_3, ho_6_4, ho_6_5, ho_6_6⟩ := ho_6
  refine zw_zb0 (sf_X12_isDigit o_6_1 v0_5 f1 (by first | with_reducible assumption | exact ⟨by with_reducible assumption, by with_reducible assumption⟩ | first | lia | grind [zu_at, zu_atL, zvn]) (by first | with_reducible assumption | exact ⟨by with_reducible assumption, by with_reducible assumption⟩ | first | lia | grind [zu_at, zu_atL, zvn])) (fun o_10 ho_10 => ?_)
  obtain ⟨ho_10_0, ho_10_1, ho_10_2, ho_10_3, ho_10_4, ho_10_5⟩ := ho_10
  refine zw_if (fun c2 => ?_) (fun c2 => ?_)
  · refine zw_zb0 (sf_X12_faults 1 o_6_1 v0_8 v0_9 (by first | with_reducible assumption | exact ⟨by with_reducible assumption, by with_reducible assumption⟩ | first | lia | grind [zu_at, zu_atL, zvn]) (by first | with_reducible assumption | exact ⟨by with_reducible assumption, by with_reducible assumption⟩ | first | lia | grind [zu_at, zu_atL, zvn])) (fun o_15 ho_15 => ?_)
    obtain ⟨o_15_0, o_15_1⟩ := o_15
    try dsimp only at ho_15
    obtain ⟨ho_15_0, ho_15_1, ho_15_2, ho_15_3⟩ := ho_15
    refine zw_some ?_
    first | exact True.intro | ((try dsimp only); (repeat' apply And.intro) <;> first | with_reducible assumption | first | lia | grind [zu_at, zu_atL, zvn])
  refine zw_zb0 (sf_X12_isSmall (o_6_1 - 1) v0_5 f1 (by first | with_reducible assumption | exact ⟨by with_reducible assumption, by with_reducible assumption⟩ | first | lia | grind [zu_at, zu_atL, zvn]) (by first | with_reducible assumption | exact ⟨by with_reducible assumption, by with_reducible assumption⟩ | first | lia | grind [zu_at, zu_atL, zvn])) (fun o_19 ho_19 => ?_)
  obtain ⟨ho_19_0, ho_19_1, ho_19_2, ho_19_3, ho_19_4, ho_19_5⟩ := ho_19
  refine zw_if (fun c3 => ?_) (fun c3 => ?_)
  · refine zw_zb0 (sf_X12_isDigit (o_6_1 - 1) v0_5 f1 (by first | with_reducible assumption | exact ⟨by with_reducible assumption, by with_reducible assumption⟩ | first | lia | grind [zu_at, zu_atL, zvn]) (by first | with_reducible assumption | exact ⟨by with_reducible assumption, by with_reducible assumption⟩ | first | lia | grind [zu_at, zu_atL, zvn])) (fun o_28 ho_28 => ?_)
    obtain ⟨ho_28_0, ho_28_1, ho_28_2, ho_28_3, ho_28_4, ho_28_5⟩ := ho_28
    refine zw_if (fun c4 => ?_) (fun c4 => ?_)
    · refine zw_zl32 (fun s_33 => 0 ≤ s_33.2 ∧ s_33.2 ≤ 1200 ∧ s_33.2 ≤ v0_5 ∧ v0_6 ≤ s_33.2 ∧ o_6_1 ≤ s_33.2) (fun s_33 => 1200 - s_33.2) (by (try dsimp only); (repeat' apply And.intro) <;> first | with_reducible assumption | first | lia | grind [zu_at, zu_atL, zvn]) (by (try dsimp only); first | lia | grind [zu_at, zu_atL, zvn]) (fun s_33 back_33 Hback_33 hback_33 => ?_)
      obtain ⟨s_33_0, s_33_1⟩ := s_33
      try dsimp only at Hback_33 hback_33
      obtain ⟨Hback_33_0, Hback_33_1, Hback_33_2, Hback_33_3, Hback_33_4⟩ := Hback_33
      refine zw_zb0 (sf_X12_isDigit s_33_1 v0_5 f1 (by first | with_reducible assumption | exact ⟨by with_reducible assumption, by with_reducible assumption⟩ | ((try clear hback_33); first | lia | grind [zu_at, zu_atL, zvn])) (by first | with_reducible assumption | exact ⟨by with_reducible assumption, by with_reducible assumption⟩ | ((try clear hback_33); first | lia | grind [zu_at, zu_atL, zvn]))) (fun o_34 ho_34 => ?_)
      obtain ⟨ho_34_0, ho_34_1, ho_34_2, ho_34_3, ho_34_4, ho_34_5⟩ := ho_34
      refine zw_if (fun c5 => ?_) (fun c5 => ?_)
      · refine zw_if (fun c6 => ?_) (fun c6 => ?_)
        · refine zw_zb0 (sf_X12_goesWell v0_8 (by first | with_reducible assumption | exact ⟨by with_reducible assumption, by with_reducible assumption⟩ | ((try clear hback_33); first | lia | grind [zu_at, zu_atL, zvn]))) (fun o_40 ho_40 => ?_)
          obtain ⟨ho_40_0, ho_40_1, ho_40_2, ho_40_3, ho_40_4, ho_40_5⟩ := ho_40
          refine zw_if (fun c7 => ?_) (fun c7 => ?_)
          · refine zw_some ?_
            first | exact True.intro | ((try dsimp only); (repeat' apply And.intro) <;> first | with_reducible assumption | ((try clear hback_33); first | lia | grind [zu_at, zu_atL, zvn]))
          refine zw_some ?_
          first | exact True.intro | ((try dsimp only); (repeat' apply And.intro) <;> first | with_reducible assumption | ((try clear hback_33); first | lia | grind [zu_at, zu_atL, zvn]))
        refine zw_zb0 (sf_X12_faults 1 o_6_1 v0_8 v0_9 (by first | with_reducible assumption | exact ⟨by with_reducible assumption, by with_reducible assumption⟩ | ((try clear hback_33); first | lia | grind [zu_at, zu_atL, zvn])) (by first | with_reducible assumption | exact ⟨by with_reducible assumption, by with_reducible assumption⟩ | ((try clear hback_33); first | lia | grind [zu_at, zu_atL, zvn]))) (fun o_45 ho_45 => ?_)
        obtain ⟨o_45_0, o_45_1⟩ := o_45
        try dsimp only at ho_45
        obtain ⟨ho_45_0, ho_45_1, ho_45_2, ho_45_3⟩ := ho_45
        refine zw_zb0 (sf_X12_goesWell o_45_0 (by first | with_reducible assumption | exact ⟨by with_reducible assumption, by with_reducible assumption⟩ | ((try clear hback_33); first | lia | grind [zu_at, zu_atL, zvn]))) (fun o_49 ho_49 => ?_)
        obtain ⟨ho_49_0, ho_49_1, ho_49_2, ho_49_3, ho_49_4, ho_49_5⟩ := ho_49
        refine zw_if (fun c8 => ?_) (fun c8 => ?_)
        · refine zw_some ?_
          first | exact True.intro | ((try dsimp only); (repeat' apply And.intro) <;> first | with_reducible assumption | ((try clear hback_33); first | lia | grind [zu_at, zu_atL, zvn]))
        refine zw_some ?_
        first | exact True.intro | ((try dsimp only); (repeat' apply And.intro) <;> first | with_reducible assumption | ((try clear hback_33); first | lia | grind [zu_at, zu_atL, zvn]))
      refine zw_if (fun c9 => ?_) (fun c9 => ?_)
      · exact hback_33 _ (by (try dsimp only); (repeat' apply And.intro) <;> first | with_reducible assumption | ((try clear hback_33); first | lia | grind [zu_at, zu_atL, zvn])) (by (try dsimp only); ((try clear hback_33); first | lia | grind [zu_at, zu_atL, zvn])) (by (try dsimp only); ((try clear hback_33); first | lia | grind [zu_at, zu_atL, zvn]))
      refine zw_zb0 (sf_X12_byteAt s_33_1 v0_5 f1 (by first | with_reducible assumption | exact ⟨by with_reducible assumption, by with_reducible assumption⟩ | ((try clear hback_33); first | lia | grind [zu_at, zu_atL, zvn])) (by first | with_reducible assumption | exact ⟨by with_reducible assumption, by with_reducible assumption⟩ | ((try clear hback_33); first | lia | grind [zu_at, zu_atL, zvn]))) (fun o_55 ho_55 => ?_)
      obtain ⟨ho_55_0, ho_55_1, ho_55_2, ho_55_3⟩ := ho_55
      exact hback_33 _ (by (try dsimp only); (repeat' apply And.intro) <;> first | with_reducible assumption | ((try clear hback_33); first | lia | grind [zu_at, zu_atL, zvn])) (by (try dsimp only); ((try clear hback_33); first | lia | grind [zu_at, zu_atL, zvn])) (by (try dsimp only); ((try clear hback_33); first | lia | grind [zu_at, zu_atL, zvn]))
    refine zw_zb0 (sf_X12_faults 1 o_6_1 v0_8 v0_9 (by first | with_reducible assumption | exact ⟨by with_reducible assumption, by with_reducible assumption⟩ | ((try clear hback_33); first | lia | grind [zu_at, zu_atL, zvn])) (by first | with_reducible assumption | exact ⟨by with_reducible assumption, by with_reducible assumption⟩ | ((try clear hback_33); first | lia | grind [zu_at, zu_atL, zvn]))) (fun o_59 ho_59 => ?_)
    obtain ⟨o_59_0, o_59_1⟩ := o_59
    try dsimp only at ho_59
    obtain ⟨ho_59_0, ho_59_1, ho_59_2, ho_59_3⟩ := ho_59
    refine zw_some ?_
    first | exact True.intro | ((try dsimp only); (repeat' apply And.intro) <;> first | with_reducible assumption | ((try clear hback_33); first | lia | grind [zu_at, zu_atL, zvn]))
  refine zw_zb0 (sf_X12_faults 1 o_6_1 v0_8 v0_9 (by first | with_reducible assumption | exact ⟨by with_reducible assumption, by with_reducible assumption⟩ | ((try clear hback_33); first | lia | grind [zu_at, zu_atL, zvn])) (by first | with_reducible assumption | exact ⟨by with_reducible assumption, by with_reducible assumption⟩ | ((try clear hback_33); first | lia | grind [zu_at, zu_atL, zvn]))) (fun o_24 ho_24 => ?_)
  obtain ⟨o_24_0, o_24_1⟩ := o_24
  try dsimp only at ho_24
  obtain ⟨ho_24_0, ho_24_1, ho_24_2, ho_24_3⟩ := ho_24
  refine zw_some ?_
  first | exact True.intro | ((try dsimp only); (repeat' apply And.intro) <;> first | with_reducible assumption | ((try clear hback_33); first | lia | grind [zu_at, zu_atL, zvn]))
set_option maxHeartbeats 4000000 in
set_option maxRecDepth 100000 in
theorem sf_X12_number (j1 : Int64) (j2 : Int64) (v0_5 : Int32) (v0_6 : Int32) (v0_7 : Int32) (v0_8 : Int32) (v0_9 : Int32) (f1 : Nat → Int32) (h_v0_5 : 0 ≤ v0_5 ∧ v0_5 ≤ 1200) (h_v0_6 : 0 ≤ v0_6 ∧ v0_6 ≤ 1200) (h_v0_7 : 0 ≤ v0_7 ∧ v0_7 ≤ 1200) (h_v0_8 : 0 ≤ v0_8 ∧ v0_8 ≤ 4) (h_f1 : (∀ i : Nat, 0 ≤ f1 i ∧ f1 i ≤ 255)) : zw (fn_X12_number j1 j2 v0_5 v0_6 v0_7 v0_8 v0_9 f1) (fun r => 0 ≤ r.2.1 ∧ r.2.1 ≤ 1200 ∧ 0 ≤ r.2.2.1 ∧ r.2.2.1 ≤ 1200 ∧ 0 ≤ r.2.2.2.1 ∧ r.2.2.2.1 ≤ 4 ∧ v0_6 ≤ r.2.1 ∧ v0_8 ≤ r.2.2.2.1 ∧ (r.2.2.2.1 = 0 → j1 ≤ r.1 ∧ r.1 ≤ j2)) := by
  unfold fn_X12_number
  refine zw_zb0 (sf_X12_digits v0_5 v0_6 v0_7 v0_8 v0_9 f1 (by first | with_reducible assumption | exact ⟨by with_reducible assumption, by with_reducible assumption⟩ | first | lia | grind [zu_at, zu_atL, zvn]) (by first | with_reducible assumption | exact ⟨by with_reducible assumption, by with_reducible assumption⟩ | first | lia | grind [zu_at, zu_atL, zvn]) (by first | with_reducible assumption | exact ⟨by with_reducible assumption, by with_reducible assumption⟩ | first | lia | grind [zu_at, zu_atL, zvn]) (by first | with_reducible assumption | exact ⟨by with_reducible assumption, by with_reducible assumption⟩ | first | lia | grind [zu_at, zu_atL, zvn]) (by first | with_reducible assumption | exact ⟨by with_reducible assumption, by with_reducible assumption⟩ | first | lia | grind [zu_at, zu_atL, zvn])) (fun o_1 ho_1 => ?_)
  obtain ⟨o_1_0, o_1_1, o_1_2, o_1_3, o_1_4⟩ := o_1
  try dsimp only at ho_1
  obtain ⟨ho_1_0, ho_1_1, ho_1_2, ho_1_3, ho_1_4, ho_1_5, ho_1_6, ho_1_7⟩ := ho_1
  refine zw_zb0 (sf_X12_goesWell o_1_3 (by first | with_reducible assumption | exact ⟨by with_reducible assumption, by with_reducible assumption⟩ | first | lia | grind [zu_at, zu_atL, zvn])) (fun o_5 ho_5 => ?_)
  obtain ⟨ho_5_0, ho_5_1, ho_5_2, ho_5_3, ho_5_4, ho_5_5⟩ := ho_5
  refine zw_if (fun c1 => ?_) (fun c1 => ?_)
  · refine zw_zb0 (sf_X12_goesWell o_1_3 (by first | with_reducible assumption | exact ⟨by with_reducible assumption, by with_reducible assumption⟩ | first | lia | grind [zu_at, zu_atL, zvn])) (fun o_10 ho_10 => ?_)
    obtain ⟨ho_10_0, ho_10_1, ho_10_2, ho_10_3, ho_10_4, ho_10_5⟩ := ho_10
    refine zw_if (fun c2 => ?_) (fun c2 => ?_)
    · refine zw_some ?_
      first | exact True.intro | ((try dsimp only); (repeat' apply And.intro) <;> first | with_reducible assumption | first | lia | grind [zu_at, zu_atL, zvn])
    refine zw_some ?_
    first | exact True.intro | ((try dsimp only); (repeat' apply And.intro) <;> first | with_reducible assumption | first | lia | grind [zu_at, zu_atL, zvn])
  refine zw_zb0 (sf_X12_isIn o_1_0 j1 j2) (fun o_15 ho_15 => ?_)
  obtain ⟨ho_15_0, ho_15_1, ho_15_2, ho_15_3, ho_15_4⟩ := ho_15
  refine zw_if (fun c3 => ?_) (fun c3 => ?_)
  · refine zw_zb0 (sf_X12_faults 2 o_1_2 o_1_3 o_1_4 (by first | with_reducible assumption | exact ⟨by with_reducible assumption, by with_reducible assumption⟩ | first | lia | grind [zu_at, zu_atL, zvn]) (by first | with_reducible assumption | exact ⟨by with_reducible assumption, by with_reducible assumption⟩ | first | lia | grind [zu_at, zu_atL, zvn])) (fun o_25 ho_25 => ?_)
    obtain ⟨o_25_0, o_25_1⟩ := o_25
    try dsimp only at ho_25
    obtain ⟨ho_25_0, ho_25_1, ho_25_2, ho_25_3⟩ := ho_25
    refine zw_zb0 (sf_X12_goesWell o_25_0 (by first | with_reducible assumption | exact ⟨by with_reducible assumption, by with_reducible assumption⟩ | first | lia | grind [zu_at, zu_atL, zvn])) (fun o_29 ho_29 => ?_)
    obtain ⟨ho_29_0, ho_29_1, ho_29_2, ho_29_3, ho_29_4, ho_29_5⟩ := ho_29
    refine zw_if (fun c4 => ?_) (fun c4 => ?_)
    · refine zw_some ?_
      first | exact True.intro | ((try dsimp only); (repeat' apply And.intro) <;> first | with_reducible assumption | first | lia | grind [zu_at, zu_atL, zvn])
    refine zw_some ?_
    first | exact True.intro | ((try dsimp only); (repeat' apply And.intro) <;> first | with_reducible assumption | first | lia | grind [zu_at, zu_atL, zvn])
  refine zw_zb0 (sf_X12_goesWell o_1_3 (by first | with_reducible assumption | exact ⟨by with_reducible assumption, by with_reducible assumption⟩ | first | lia | grind [zu_at, zu_atL, zvn])) (fun o_20 ho_20 => ?_)
  obtain ⟨ho_20_0, ho_20_1, ho_20_2, ho_20_3, ho_20_4, ho_20_5⟩ := ho_20
  refine zw_if (fun c5 => ?_) (fun c5 => ?_)
  · refine zw_some ?_
    first | exact True.intro | ((try dsimp only); (repeat' apply And.intro) <;> first | with_reducible assumption | first | lia | grind [zu_at, zu_atL, zvn])
  refine zw_some ?_
  first | exact True.intro | ((try dsimp only); (repeat' apply And.intro) <;> first | with_reducible assumption | first | lia | grind [zu_at, zu_atL, zvn])
set_option maxHeartbeats 4000000 in
set_option maxRecDepth 100000 in
theorem sf_X12_signed (j1 : Int64) (j2 : Int64) (v0_5 : Int32) (v0_6 : Int32) (v0_7 : Int32) (v0_8 : Int32) (v0_9 : Int32) (f1 : Nat → Int32) (h_v0_5 : 0 ≤ v0_5 ∧ v0_5 ≤ 1200) (h_v0_6 : 0 ≤ v0_6 ∧ v0_6 ≤ 1200) (h_v0_7 : 0 ≤ v0_7 ∧ v0_7 ≤ 1200) (h_v0_8 : 0 ≤ v0_8 ∧ v0_8 ≤ 4) (h_f1 : (∀ i : Nat, 0 ≤ f1 i ∧ f1 i ≤ 255)) : zw (fn_X12_signed j1 j2 v0_5 v0_6 v0_7 v0_8 v0_9 f1) (fun r => 0 ≤ r.2.1 ∧ r.2.1 ≤ 1200 ∧ 0 ≤ r.2.2.1 ∧ r.2.2.1 ≤ 1200 ∧ 0 ≤ r.2.2.2.1 ∧ r.2.2.2.1 ≤ 4 ∧ v0_6 ≤ r.2.1 ∧ v0_8 ≤ r.2.2.2.1) := by
  unfold fn_X12_signed
  refine zw_zb0 (sf_X12_goesWell v0_8 (by first | with_reducible assumption | exact ⟨by with_reducible assumption, by with_reducible assumption⟩ | first | lia | grind [zu_at, zu_atL, zvn])) (fun o_1 ho_1 => ?_)
  obtain ⟨ho_1_0, ho_1_1, ho_1_2, ho_1_3, ho_1_4, ho_1_5⟩ := ho_1
  refine zw_if (fun c1 => ?_) (fun c1 => ?_)
  · refine zw_some ?_
    first | exact True.intro | ((try dsimp only); (repeat' apply And.intro) <;> first | with_reducible assumption | first | lia | grind [zu_at, zu_atL, zvn])
  refine zw_zb0 (sf_X12_here v0_5 v0_6 f1 (by first | with_reducible assumption | exact ⟨by with_reducible assumption, by with_reducible assumption⟩ | first | lia | grind [zu_at, zu_atL, zvn]) (by first | with_reducible assumption | exact ⟨by with_reducible assumption, by with_reducible assumption⟩ | first | lia | grind [zu_at, zu_atL, zvn]) (by first | with_reducible assumption | exact ⟨by with_reducible assumption, by with_reducible assumption⟩ | first | lia | grind [zu_at, zu_atL, zvn])) (fun o_6 ho_6 => ?_)
  obtain ⟨o_6_0, o_6_1⟩ := o_6
  try dsimp only at ho_6
  obtain ⟨ho_6_0, ho_6_1, ho_6_2, ho_6_3, ho_6_4, ho_6_5, ho_6_6⟩ := ho_6
  refine zw_zj (fun s_10 => (s_10 = 0 ∨ o_6_1 < v0_5) ∧ 0 ≤ s_10 ∧ s_10 ≤ 1 ∧ s_10 ≤ v0_5 ∧ s_10 ≤ o_6_0 + 1) (fun s_10 Hj_10 => ?_) (fun j_10 hj_10 => ?_)
  · obtain ⟨Hj_10_0, Hj_10_1, Hj_10_2, Hj_10_3, Hj_10_4⟩ := Hj_10
    refine zw_zj (fun s_11 => 0 ≤ s_11 ∧ s_11 ≤ 1200 ∧ s_10 ≤ s_11 ∧ v0_6 ≤ s_11 ∧ o_6_1 ≤ s_11 ∧ s_11 ≤ o_6_1 + 1) (fun s_11 Hj_11 => ?_) (fun j_11 hj_11 => ?_)
    · obtain ⟨Hj_11_0, Hj_11_1, Hj_11_2, Hj_11_3, Hj_11_4, Hj_11_5⟩ := Hj_11
      refine zw_zb0 (sf_X12_digits v0_5 s_11 v0_7 v0_8 v0_9 f1 (by first | with_reducible assumption | exact ⟨by with_reducible assumption, by with_reducible assumption⟩ | ((try clear hj_10); (try clear hj_11); first | lia | grind [zu_at, zu_atL, zvn])) (by first | with_reducible assumption | exact ⟨by with_reducible assumption, by with_reducible assumption⟩ | ((try clear hj_10); (try clear hj_11); first | lia | grind [zu_at, zu_atL, zvn])) (by first | with_reducible assumption | exact ⟨by with_reducible assumption, by with_reducible assumption⟩ | ((try clear hj_10); (try clear hj_11); first | lia | grind [zu_at, zu_atL, zvn])) (by first | with_reducible assumption | exact ⟨by with_reducible assumption, by with_reducible assumption⟩ | ((try clear hj_10); (try clear hj_11); first | lia | grind [zu_at, zu_atL, zvn])) (by first | with_reducible assumption | exact ⟨by with_reducible assumption, by with_reducible assumption⟩ | ((try clear hj_10); (try clear hj_11); first | lia | grind [zu_at, zu_atL, zvn]))) (fun o_12 ho_12 => ?_)
      obtain ⟨o_12_0, o_12_1, o_12_2, o_12_3, o_12_4⟩ := o_12
      try dsimp only at ho_12
      obtain ⟨ho_12_0, ho_12_1, ho_12_2, ho_12_3, ho_12_4, ho_12_5, ho_12_6, ho_12_7⟩ := ho_12
      refine zw_zj (fun s_16 => True) (fun s_16 Hj_16 => ?_) (fun j_16 hj_16 => ?_)
      · refine zw_zb0 (sf_X12_goesWell o_12_3 (by first | with_reducible assumption | exact ⟨by with_reducible assumption, by with_reducible assumption⟩ | ((try clear hj_10); (try clear hj_11); (try clear hj_16); first | lia | grind [zu_at, zu_atL, zvn]))) (fun o_17 ho_17 => ?_)
        obtain ⟨ho_17_0, ho_17_1, ho_17_2, ho_17_3, ho_17_4, ho_17_5⟩ := ho_17
        refine zw_zj (fun s_21 => 0 ≤ s_21.1 ∧ s_21.1 ≤ 4 ∧ o_12_3 ≤ s_21.1) (fun s_21 Hj_21 => ?_) (fun j_21 hj_21 => ?_)
        · obtain ⟨s_21_0, s_21_1⟩ := s_21
          try dsimp only at Hj_21
          obtain ⟨Hj_21_0, Hj_21_1, Hj_21_2⟩ := Hj_21
          refine zw_zb0 (sf_X12_goesWell s_21_0 (by first | with_reducible assumption | exact ⟨by with_reducible assumption, by with_reducible assumption⟩ | ((try clear hj_10); (try clear hj_11); (try clear hj_16); (try clear hj_21); first | lia | grind [zu_at, zu_atL, zvn]))) (fun o_22 ho_22 => ?_)
          obtain ⟨ho_22_0, ho_22_1, ho_22_2, ho_22_3, ho_22_4, ho_22_5⟩ := ho_22
          refine zw_if (fun c2 => ?_) (fun c2 => ?_)
          · refine zw_some ?_
            first | exact True.intro | ((try dsimp only); (repeat' apply And.intro) <;> first | with_reducible assumption | ((try clear hj_10); (try clear hj_11); (try clear hj_16); (try clear hj_21); first | lia | grind [zu_at, zu_atL, zvn]))
          refine zw_some ?_
          first | exact True.intro | ((try dsimp only); (repeat' apply And.intro) <;> first | with_reducible assumption | ((try clear hj_10); (try clear hj_11); (try clear hj_16); (try clear hj_21); first | lia | grind [zu_at, zu_atL, zvn]))
        refine zw_if (fun c3 => ?_) (fun c3 => ?_)
        · exact hj_21 _ (by first | exact True.intro | ((try dsimp only); (repeat' apply And.intro) <;> first | with_reducible assumption | ((try clear hj_10); (try clear hj_11); (try clear hj_16); (try clear hj_21); first | lia | grind [zu_at, zu_atL, zvn])))
        refine zw_zb0 (sf_X12_isIn s_16 j1 j2) (fun o_28 ho_28 => ?_)
        obtain ⟨ho_28_0, ho_28_1, ho_28_2, ho_28_3, ho_28_4⟩ := ho_28
        refine zw_if (fun c4 => ?_) (fun c4 => ?_)
        · refine zw_zb0 (sf_X12_faults 2 o_6_1 o_12_3 o_12_4 (by first | with_reducible assumption | exact ⟨by with_reducible assumption, by with_reducible assumption⟩ | ((try clear hj_10); (try clear hj_11); (try clear hj_16); (try clear hj_21); first | lia | grind [zu_at, zu_atL, zvn])) (by first | with_reducible assumption | exact ⟨by with_reducible assumption, by with_reducible assumption⟩ | ((try clear hj_10); (try clear hj_11); (try clear hj_16); (try clear hj_21); first | lia | grind [zu_at, zu_atL, zvn]))) (fun o_33 ho_33 => ?_)
          obtain ⟨o_33_0, o_33_1⟩ := o_33
          try dsimp only at ho_33
          obtain ⟨ho_33_0, ho_33_1, ho_33_2, ho_33_3⟩ := ho_33
          exact hj_21 _ (by first | exact True.intro | ((try dsimp only); (repeat' apply And.intro) <;> first | with_reducible assumption | ((try clear hj_10); (try clear hj_11); (try clear hj_16); (try clear hj_21); first | lia | grind [zu_at, zu_atL, zvn])))
        exact hj_21 _ (by first | exact True.intro | ((try dsimp only); (repeat' apply And.intro) <;> first | with_reducible assumption | ((try clear hj_10); (try clear hj_11); (try clear hj_16); (try clear hj_21); first | lia | grind [zu_at, zu_atL, zvn])))
      refine zw_if (fun c5 => ?_) (fun c5 => ?_)
      · exact hj_16 _ (by first | exact True.intro | ((try dsimp only); (repeat' apply And.intro) <;> first | with_reducible assumption | ((try clear hj_10); (try clear hj_11); (try clear hj_16); (try clear hj_21); first | lia | grind [zu_at, zu_atL, zvn])))
      exact hj_16 _ (by first | exact True.intro | ((try dsimp only); (repeat' apply And.intro) <;> first | with_reducible assumption | ((try clear hj_10); (try clear hj_11); (try clear hj_16); (try clear hj_21); first | lia | grind [zu_at, zu_atL, zvn])))
    refine zw_if (fun c6 => ?_) (fun c6 => ?_)
    · exact hj_11 _ (by first | exact True.intro | ((try dsimp only); (repeat' apply And.intro) <;> first | with_reducible assumption | ((try clear hj_10); (try clear hj_11); (try clear hj_16); (try clear hj_21); first | lia | grind [zu_at, zu_atL, zvn])))
    exact hj_11 _ (by first | exact True.intro | ((try dsimp only); (repeat' apply And.intro) <;> first | with_reducible assumption | ((try clear hj_10); (try clear hj_11); (try clear hj_16); (try clear hj_21); first | lia | grind [zu_at, zu_atL, zvn])))
  refine zw_if (fun c7 => ?_) (fun c7 => ?_)
  · exact hj_10 _ (by first | exact True.intro | ((try dsimp only); (repeat' apply And.intro) <;> first | with_reducible assumption | ((try clear hj_10); (try clear hj_11); (try clear hj_16); (try clear hj_21); first | lia | grind [zu_at, zu_atL, zvn])))
  exact hj_10 _ (by first | exact True.intro | ((try dsimp only); (repeat' apply And.intro) <;> first | with_reducible assumption | ((try clear hj_10); (try clear hj_11); (try clear hj_16); (try clear hj_21); first | lia | grind [zu_at, zu_atL, zvn])))
set_option maxHeartbeats 4000000 in
set_option maxRecDepth 100000 in
theorem sf_X12_f (p1 : Int32) (v0_11 : Int32) (h_p1 : 0 ≤ p1 ∧ p1 ≤ 4) (h_v0_11 : 1 ≤ v0_11 ∧ v0_11 ≤ 1) : zw (fn_X12_f p1 v0_11) (fun r => 4 ≤ r ∧ r ≤ 8 ∧ p1 + 4 ≤ r ∧ r ≤ p1 + 4) := by
  unfold fn_X12_f
  refine zw_some ?_
  first | exact True.intro | ((try dsimp only); (repeat' apply And.intro) <;> first | with_reducible assumption | first | lia | grind [zu_at, zu_atL, zvn])
set_option maxHeartbeats 4000000 in
set_option maxRecDepth 100000 in
theorem sf_X12_n (p1 : Int32) (v0_11 : Int32) (h_p1 : 0 ≤ p1 ∧ p1 ≤ 14) (h_v0_11 : 1 ≤ v0_11 ∧ v0_11 ≤ 1) : zw (fn_X12_n p1 v0_11) (fun r => 14 ≤ r ∧ r ≤ 28 ∧ p1 + 14 ≤ r ∧ r ≤ p1 + 14) := by
  unfold fn_X12_n
  refine zw_some ?_
  first | exact True.intro | ((try dsimp only); (repeat' apply And.intro) <;> first | with_reducible assumption | first | lia | grind [zu_at, zu_atL, zvn])
set_option maxHeartbeats 4000000 in
set_option maxRecDepth 100000 in
theorem sf_X12_formatNamed (p1 : Int32) (v0_11 : Int32) (f1 : Nat → Int32) (f2 : Nat → Int32) (h_v0_11 : 1 ≤ v0_11 ∧ v0_11 ≤ 1) (h_f1 : (∀ i : Nat, 0 ≤ f1 i ∧ f1 i ≤ 4)) : zw (fn_X12_formatNamed p1 v0_11 f1 f2) (fun r => (-1) ≤ r ∧ r ≤ 3 ∧ r < (f1 v0_11.toNatClampNeg) ∧ (r = (-1) → r + 2 ≤ v0_11) ∧ (¬ r = (-1) → 0 ≤ r)) := by
  unfold fn_X12_formatNamed
  refine zw_zl32 (fun s_1 => 0 ≤ s_1 ∧ s_1 ≤ 4) (fun s_1 => 4 - s_1) (by (try dsimp only); (repeat' apply And.intro) <;> first | with_reducible assumption | first | lia | grind [zu_at, zu_atL, zvn]) (by (try dsimp only); first | lia | grind [zu_at, zu_atL, zvn]) (fun s_1 back_1 Hback_1 hback_1 => ?_)
  obtain ⟨Hback_1_0, Hback_1_1⟩ := Hback_1
  refine zw_zg32 2 (by decide) (by (try dsimp only); ((try clear hback_1); first | lia | grind [zu_at, zu_atL, zvn])) ?_
  refine zw_if (fun c1 => ?_) (fun c1 => ?_)
  · refine zw_some ?_
    first | exact True.intro | ((try dsimp only); (repeat' apply And.intro) <;> first | with_reducible assumption | ((try clear hback_1); first | lia | grind [zu_at, zu_atL, zvn]))
  refine zw_zb0 (sf_X12_f s_1 v0_11 (by first | with_reducible assumption | exact ⟨by with_reducible assumption, by with_reducible assumption⟩ | ((try clear hback_1); first | lia | grind [zu_at, zu_atL, zvn])) (by first | with_reducible assumption | exact ⟨by with_reducible assumption, by with_reducible assumption⟩ | ((try clear hback_1); first | lia | grind [zu_at, zu_atL, zvn]))) (fun o_4 ho_4 => ?_)
  obtain ⟨ho_4_0, ho_4_1, ho_4_2, ho_4_3⟩ := ho_4
  refine zw_zg32 8 (by decide) (by (try dsimp only); ((try clear hback_1); first | lia | grind [zu_at, zu_atL, zvn])) ?_
  refine zw_if (fun c2 => ?_) (fun c2 => ?_)
  · refine zw_some ?_
    first | exact True.intro | ((try dsimp only); (repeat' apply And.intro) <;> first | with_reducible assumption | ((try clear hback_1); first | lia | grind [zu_at, zu_atL, zvn]))
  exact hback_1 _ (by (try dsimp only); (repeat' apply And.intro) <;> first | with_reducible assumption | ((try clear hback_1); first | lia | grind [zu_at, zu_atL, zvn])) (by (try dsimp only); ((try clear hback_1); first | lia | grind [zu_at, zu_atL, zvn])) (by (try dsimp only); ((try clear hback_1); first | lia | grind [zu_at, zu_atL, zvn]))
set_option maxHeartbeats 4000000 in
set_option maxRecDepth 100000 in
theorem sf_X12_numberNamed (p1 : Int32) (v0_11 : Int32) (f1 : Nat → Int32) (f2 : Nat → Int32) (h_v0_11 : 1 ≤ v0_11 ∧ v0_11 ≤ 1) (h_f1 : (∀ i : Nat, 0 ≤ f1 i ∧ f1 i ≤ 14)) : zw (fn_X12_numberNamed p1 v0_11 f1 f2) (fun r => (-1) ≤ r ∧ r ≤ 13 ∧ r < (f1 v0_11.toNatClampNeg) ∧ (r = (-1) → r + 2 ≤ v0_11) ∧ (¬ r = (-1) → 0 ≤ r)) := by
  unfold fn_X12_numberNamed
  refine zw_zl32 (fun s_1 => 0 ≤ s_1 ∧ s_1 ≤ 14) (fun s_1 => 14 - s_1) (by (try dsimp only); (repeat' apply And.intro) <;> first | with_reducible assumption | first | lia | grind [zu_at, zu_atL, zvn]) (by (try dsimp only); first | lia | grind [zu_at, zu_atL, zvn]) (fun s_1 back_1 Hback_1 hback_1 => ?_)
  obtain ⟨Hback_1_0, Hback_1_1⟩ := Hback_1
  refine zw_zg32 2 (by decide) (by (try dsimp only); ((try clear hback_1); first | lia | grind [zu_at, zu_atL, zvn])) ?_
  refine zw_if (fun c1 => ?_) (fun c1 => ?_)
  · refine zw_some ?_
    first | exact True.intro | ((try dsimp only); (repeat' apply And.intro) <;> first | with_reducible assumption | ((try clear hback_1); first | lia | grind [zu_at, zu_atL, zvn]))
  refine zw_zb0 (sf_X12_n s_1 v0_11 (by first | with_reducible assumption | exact ⟨by with_reducible assumption, by with_reducible assumption⟩ | ((try clear hback_1); first | lia | grind [zu_at, zu_atL, zvn])) (by first | with_reducible assumption | exact ⟨by with_reducible assumption, by with_reducible assumption⟩ | ((try clear hback_1); first | lia | grind [zu_at, zu_atL, zvn]))) (fun o_4 ho_4 => ?_)
  obtain ⟨ho_4_0, ho_4_1, ho_4_2, ho_4_3⟩ := ho_4
  refine zw_zg32 28 (by decide) (by (try dsimp only); ((try clear hback_1); first | lia | grind [zu_at, zu_atL, zvn])) ?_
  refine zw_if (fun c2 => ?_) (fun c2 => ?_)
  · refine zw_some ?_
    first | exact True.intro | ((try dsimp only); (repeat' apply And.intro) <;> first | with_reducible assumption | ((try clear hback_1); first | lia | grind [zu_at, zu_atL, zvn]))
  exact hback_1 _ (by (try dsimp only); (repeat' apply And.intro) <;> first | with_reducible assumption | ((try clear hback_1); first | lia | grind [zu_at, zu_atL, zvn])) (by (try dsimp only); ((try clear hback_1); first | lia | grind [zu_at, zu_atL, zvn])) (by (try dsimp only); ((try clear hback_1); first | lia | grind [zu_at, zu_atL, zvn]))
set_option maxHeartbeats 4000000 in
set_option maxRecDepth 100000 in
theorem sf_X12_newName (v0_5 : Int32) (v0_6 : Int32) (v0_7 : Int32) (v0_8 : Int32) (v0_9 : Int32) (v0_11 : Int32) (f1 : Nat → Int32) (f2 : Nat → Int32) (f3 : Nat → Int32) (f4 : Nat → Int32) (f5 : Nat → Int32) (f6 : Nat → Int32) (h_v0_5 : 0 ≤ v0_5 ∧ v0_5 ≤ 1200) (h_v0_6 : 0 ≤ v0_6 ∧ v0_6 ≤ 1200) (h_v0_7 : 0 ≤ v0_7 ∧ v0_7 ≤ 1200) (h_v0_8 : 0 ≤ v0_8 ∧ v0_8 ≤ 4) (h_v0_11 : 1 ≤ v0_11 ∧ v0_11 ≤ 1) (h_f1 : (∀ i : Nat, 0 ≤ f1 i ∧ f1 i ≤ 255)) (h_f3 : (∀ i : Nat, 0 ≤ f3 i ∧ f3 i ≤ 4)) (h_f5 : (∀ i : Nat, 0 ≤ f5 i ∧ f5 i ≤ 14)) (hx_0 : (∀ k : Nat, k < 71 → f2 k = zTab k)) : zw (fn_X12_newName v0_5 v0_6 v0_7 v0_8 v0_9 v0_11 f1 f2 f3 f4 f5 f6) (fun r => 0 ≤ r.2.1 ∧ r.2.1 ≤ 1200 ∧ 0 ≤ r.2.2.1 ∧ r.2.2.1 ≤ 1200 ∧ 0 ≤ r.2.2.2.1 ∧ r.2.2.2.1 ≤ 4 ∧ v0_6 ≤ r.2.1 ∧ v0_8 ≤ r.2.2.2.1) := by
  unfold fn_X12_newName
  refine zw_zb0 (sf_X12_name v0_5 v0_6 v0_7 v0_8 v0_9 f1 f2 (by first | with_reducible assumption | exact ⟨by with_reducible assumption, by with_reducible assumption⟩ | first | lia | grind [zu_at, zu_atL, zvn]) (by first | with_reducible assumption | exact ⟨by with_reducible assumption, by with_reducible assumption⟩ | first | lia | grind [zu_at, zu_atL, zvn]) (by first | with_reducible assumption | exact ⟨by with_reducible assumption, by with_reducible assumption⟩ | first | lia | grind [zu_at, zu_atL, zvn]) (by first | with_reducible assumption | exact ⟨by with_reducible assumption, by with_reducible assumption⟩ | first | lia | grind [zu_at, zu_atL, zvn]) (by first | with_reducible assumption | exact ⟨by with_reducible assumption, by with_reducible assumption⟩ | first | lia | grind [zu_at, zu_atL, zvn]) (by first | with_reducible assumption | exact ⟨by with_reducible assumption, by with_reducible assumption⟩ | first | lia | grind [zu_at, zu_atL, zvn])) (fun o_1 ho_1 => ?_)
  obtain ⟨o_1_0, o_1_1, o_1_2, o_1_3, o_1_4⟩ := o_1
  try dsimp only at ho_1
  obtain ⟨ho_1_0, ho_1_1, ho_1_2, ho_1_3, ho_1_4, ho_1_5, ho_1_6, ho_1_7⟩ := ho_1
  refine zw_zb0 (sf_X12_goesWell o_1_3 (by first | with_reducible assumption | exact ⟨by with_reducible assumption, by with_reducible assumption⟩ | first | lia | grind [zu_at, zu_atL, zvn])) (fun o_5 ho_5 => ?_)
  obtain ⟨ho_5_0, ho_5_1, ho_5_2, ho_5_3, ho_5_4, ho_5_5⟩ := ho_5
  refine zw_if (fun c1 => ?_) (fun c1 => ?_)
  · refine zw_some ?_
    first | exact True.intro | ((try dsimp only); (repeat' apply And.intro) <;> first | with_reducible assumption | first | lia | grind [zu_at, zu_atL, zvn])
  refine zw_zb0 (sf_X12_formatNamed o_1_0 v0_11 f3 f4 (by first | with_reducible assumption | exact ⟨by with_reducible assumption, by with_reducible assumption⟩ | first | lia | grind [zu_at, zu_atL, zvn]) (by first | with_reducible assumption | exact ⟨by with_reducible assumption, by with_reducible assumption⟩ | first | lia | grind [zu_at, zu_atL, zvn])) (fun o_10 ho_10 => ?_)
  obtain ⟨ho_10_0, ho_10_1, ho_10_2, ho_10_3, ho_10_4⟩ := ho_10
  refine zw_if (fun c2 => ?_) (fun c2 => ?_)
  · refine zw_zb0 (sf_X12_numberNamed o_1_0 v0_11 f5 f6 (by first | with_reducible assumption | exact ⟨by with_reducible assumption, by with_reducible assumption⟩ | first | lia | grind [zu_at, zu_atL, zvn]) (by first | with_reducible assumption | exact ⟨by with_reducible assumption, by with_reducible assumption⟩ | first | lia | grind [zu_at, zu_atL, zvn])) (fun o_19 ho_19 => ?_)
    obtain ⟨ho_19_0, ho_19_1, ho_19_2, ho_19_3, ho_19_4⟩ := ho_19
    refine zw_if (fun c3 => ?_) (fun c3 => ?_)
    · refine zw_some ?_
      first | exact True.intro | ((try dsimp only); (repeat' apply And.intro) <;> first | with_reducible assumption | first | lia | grind [zu_at, zu_atL, zvn])
    refine zw_zb0 (sf_X12_faults 3 o_1_2 o_1_3 o_1_4 (by first | with_reducible assumption | exact ⟨by with_reducible assumption, by with_reducible assumption⟩ | first | lia | grind [zu_at, zu_atL, zvn]) (by first | with_reducible assumption | exact ⟨by with_reducible assumption, by with_reducible assumption⟩ | first | lia | grind [zu_at, zu_atL, zvn])) (fun o_24 ho_24 => ?_)
    obtain ⟨o_24_0, o_24_1⟩ := o_24
    try dsimp only at ho_24
    obtain ⟨ho_24_0, ho_24_1, ho_24_2, ho_24_3⟩ := ho_24
    refine zw_some ?_
    first | exact True.intro | ((try dsimp only); (repeat' apply And.intro) <;> first | with_reducible assumption | first | lia | grind [zu_at, zu_atL, zvn])
  refine zw_zb0 (sf_X12_faults 3 o_1_2 o_1_3 o_1_4 (by first | with_reducible assumption | exact ⟨by with_reducible assumption, by with_reducible assumption⟩ | first | lia | grind [zu_at, zu_atL, zvn]) (by first | with_reducible assumption | exact ⟨by with_reducible assumption, by with_reducible assumption⟩ | first | lia | grind [zu_at, zu_atL, zvn])) (fun o_15 ho_15 => ?_)
  obtain ⟨o_15_0, o_15_1⟩ := o_15
  try dsimp only at ho_15
  obtain ⟨ho_15_0, ho_15_1, ho_15_2, ho_15_3⟩ := ho_15
  refine zw_some ?_
  first | exact True.intro | ((try dsimp only); (repeat' apply And.intro) <;> first | with_reducible assumption | first | lia | grind [zu_at, zu_atL, zvn])
set_option maxHeartbeats 4000000 in
set_option maxRecDepth 100000 in
theorem sf_X12_toldNumber (v0_5 : Int32) (v0_6 : Int32) (v0_7 : Int32) (v0_8 : Int32) (v0_9 : Int32) (v0_11 : Int32) (f1 : Nat → Int32) (f2 : Nat → Int32) (f3 : Nat → Int32) (f4 : Nat → Int32) (h_v0_5 : 0 ≤ v0_5 ∧ v0_5 ≤ 1200) (h_v0_6 : 0 ≤ v0_6 ∧ v0_6 ≤ 1200) (h_v0_7 : 0 ≤ v0_7 ∧ v0_7 ≤ 1200) (h_v0_8 : 0 ≤ v0_8 ∧ v0_8 ≤ 4) (h_v0_11 : 1 ≤ v0_11 ∧ v0_11 ≤ 1) (h_f1 : (∀ i : Nat, 0 ≤ f1 i ∧ f1 i ≤ 255)) (h_f3 : (∀ i : Nat, 0 ≤ f3 i ∧ f3 i ≤ 14)) (hx_0 : (∀ k : Nat, k < 71 → f2 k = zTab k)) : zw (fn_X12_toldNumber v0_5 v0_6 v0_7 v0_8 v0_9 v0_11 f1 f2 f3 f4) (fun r => 0 ≤ r.2.1 ∧ r.2.1 ≤ 1200 ∧ 0 ≤ r.2.2.1 ∧ r.2.2.1 ≤ 1200 ∧ 0 ≤ r.2.2.2.1 ∧ r.2.2.2.1 ≤ 4 ∧ 0 ≤ r.1 ∧ r.1 ≤ 13 ∧ v0_6 ≤ r.2.1 ∧ v0_8 ≤ r.2.2.2.1) := by
  unfold fn_X12_toldNumber
  refine zw_zb0 (sf_X12_name v0_5 v0_6 v0_7 v0_8 v0_9 f1 f2 (by first | with_reducible assumption | exact ⟨by with_reducible assumption, by with_reducible assumption⟩ | first | lia | grind [zu_at, zu_atL, zvn]) (by first | with_reducible assumption | exact ⟨by with_reducible assumption, by with_reducible assumption⟩ | first | lia | grind [zu_at, zu_atL, zvn]) (by first | with_reducible assumption | exact ⟨by with_reducible assumption, by with_reducible assumption⟩ | first | lia | grind [zu_at, zu_atL, zvn]) (by first | with_reducible assumption | exact ⟨by with_reducible assumption, by with_reducible assumption⟩ | first | lia | grind [zu_at, zu_atL, zvn]) (by first | with_reducible assumption | exact ⟨by with_reducible assumption, by with_reducible assumption⟩ | first | lia | grind [zu_at, zu_atL, zvn]) (by first | with_reducible assumption | exact ⟨by with_reducible assumption, by with_reducible assumption⟩ | first | lia | grind [zu_at, zu_atL, zvn])) (fun o_1 ho_1 => ?_)
  obtain ⟨o_1_0, o_1_1, o_1_2, o_1_3, o_1_4⟩ := o_1
  try dsimp only at ho_1
  obtain ⟨ho_1_0, ho_1_1, ho_1_2, ho_1_3, ho_1_4, ho_1_5, ho_1_6, ho_1_7⟩ := ho_1
  refine zw_zb0 (sf_X12_goesWell o_1_3 (by first | with_reducible assumption | exact ⟨by with_reducible assumption, by with_reducible assumption⟩ | first | lia | grind [zu_at, zu_atL, zvn])) (fun o_5 ho_5 => ?_)
  obtain ⟨ho_5_0, ho_5_1, ho_5_2, ho_5_3, ho_5_4, ho_5_5⟩ := ho_5
  refine zw_zj (fun s_9 => (-1) ≤ s_9 ∧ s_9 ≤ 13 ∧ v0_8 ≤ s_9 + 4 ∧ o_1_3 ≤ s_9 + 4) (fun s_9 Hj_9 => ?_) (fun j_9 hj_9 => ?_)
  · obtain ⟨Hj_9_0, Hj_9_1, Hj_9_2, Hj_9_3⟩ := Hj_9
    refine zw_zb0 (sf_X12_goesWell o_1_3 (by first | with_reducible assumption | exact ⟨by with_reducible assumption, by with_reducible assumption⟩ | ((try clear hj_9); first | lia | grind [zu_at, zu_atL, zvn]))) (fun o_10 ho_10 => ?_)
    obtain ⟨ho_10_0, ho_10_1, ho_10_2, ho_10_3, ho_10_4, ho_10_5⟩ := ho_10
    refine zw_if (fun c1 => ?_) (fun c1 => ?_)
    · refine zw_zb0 (sf_X12_goesWell o_1_3 (by first | with_reducible assumption | exact ⟨by with_reducible assumption, by with_reducible assumption⟩ | ((try clear hj_9); first | lia | grind [zu_at, zu_atL, zvn]))) (fun o_15 ho_15 => ?_)
      obtain ⟨ho_15_0, ho_15_1, ho_15_2, ho_15_3, ho_15_4, ho_15_5⟩ := ho_15
      refine zw_if (fun c2 => ?_) (fun c2 => ?_)
      · refine zw_some ?_
        first | exact True.intro | ((try dsimp only); (repeat' apply And.intro) <;> first | with_reducible assumption | ((try clear hj_9); first | lia | grind [zu_at, zu_atL, zvn]))
      refine zw_some ?_
      first | exact True.intro | ((try dsimp only); (repeat' apply And.intro) <;> first | with_reducible assumption | ((try clear hj_9); first | lia | grind [zu_at, zu_atL, zvn]))
    refine zw_if (fun c3 => ?_) (fun c3 => ?_)
    · refine zw_zb0 (sf_X12_faults 3 o_1_2 o_1_3 o_1_4 (by first | with_reducible assumption | exact ⟨by with_reducible assumption, by with_reducible assumption⟩ | ((try clear hj_9); first | lia | grind [zu_at, zu_atL, zvn])) (by first | with_reducible assumption | exact ⟨by with_reducible assumption, by with_reducible assumption⟩ | ((try clear hj_9); first | lia | grind [zu_at, zu_atL, zvn]))) (fun o_26 ho_26 => ?_)
      obtain ⟨o_26_0, o_26_1⟩ := o_26
      try dsimp only at ho_26
      obtain ⟨ho_26_0, ho_26_1, ho_26_2, ho_26_3⟩ := ho_26
      refine zw_zb0 (sf_X12_goesWell o_26_0 (by first | with_reducible assumption | exact ⟨by with_reducible assumption, by with_reducible assumption⟩ | ((try clear hj_9); first | lia | grind [zu_at, zu_atL, zvn]))) (fun o_30 ho_30 => ?_)
      obtain ⟨ho_30_0, ho_30_1, ho_30_2, ho_30_3, ho_30_4, ho_30_5⟩ := ho_30
      refine zw_if (fun c4 => ?_) (fun c4 => ?_)
      · refine zw_some ?_
        first | exact True.intro | ((try dsimp only); (repeat' apply And.intro) <;> first | with_reducible assumption | ((try clear hj_9); first | lia | grind [zu_at, zu_atL, zvn]))
      refine zw_some ?_
      first | exact True.intro | ((try dsimp only); (repeat' apply And.intro) <;> first | with_reducible assumption | ((try clear hj_9); first | lia | grind [zu_at, zu_atL, zvn]))
    refine zw_zb0 (sf_X12_goesWell o_1_3 (by first | with_reducible assumption | exact ⟨by with_reducible assumption, by with_reducible assumption⟩ | ((try clear hj_9); first | lia | grind [zu_at, zu_atL, zvn]))) (fun o_21 ho_21 => ?_)
    obtain ⟨ho_21_0, ho_21_1, ho_21_2, ho_21_3, ho_21_4, ho_21_5⟩ := ho_21
    refine zw_if (fun c5 => ?_) (fun c5 => ?_)
    · refine zw_some ?_
      first | exact True.intro | ((try dsimp only); (repeat' apply And.intro) <;> first | with_reducible assumption | ((try clear hj_9); first | lia | grind [zu_at, zu_atL, zvn]))
    refine zw_some ?_
    first | exact True.intro | ((try dsimp only); (repeat' apply And.intro) <;> first | with_reducible assumption | ((try clear hj_9); first | lia | grind [zu_at, zu_atL, zvn]))
  refine zw_if (fun c6 => ?_) (fun c6 => ?_)
  · exact hj_9 _ (by first | exact True.intro | ((try dsimp only); (repeat' apply And.intro) <;> first | with_reducible assumption | ((try clear hj_9); first | lia | grind [zu_at, zu_atL, zvn])))
  refine zw_zb0 (sf_X12_numberNamed o_1_0 v0_11 f3 f4 (by first | with_reducible assumption | exact ⟨by with_reducible assumption, by with_reducible assumption⟩ | ((try clear hj_9); first | lia | grind [zu_at, zu_atL, zvn])) (by first | with_reducible assumption | exact ⟨by with_reducible assumption, by with_reducible assumption⟩ | ((try clear hj_9); first | lia | grind [zu_at, zu_atL, zvn]))) (fun o_36 ho_36 => ?_)
  obtain ⟨ho_36_0, ho_36_1, ho_36_2, ho_36_3, ho_36_4⟩ := ho_36
  exact hj_9 _ (by first | exact True.intro | ((try dsimp only); (repeat' apply And.intro) <;> first | with_reducible assumption | ((try clear hj_9); first | lia | grind [zu_at, zu_atL, zvn])))
set_option maxHeartbeats 4000000 in
set_option maxRecDepth 100000 in
theorem sf_X12_readsFormat (v0_5 : Int32) (v0_6 : Int32) (v0_7 : Int32) (v0_8 : Int32) (v0_9 : Int32) (v0_11 : Int32) (f1 : Nat → Int32) (f2 : Nat → Int32) (f3 : Nat → Int32) (f4 : Nat → Int32) (f5 : Nat → Int32) (f6 : Nat → Int32) (f7 : Nat → Int32) (f8 : Nat → Int32) (f9 : Nat → Int32) (h_v0_5 : 0 ≤ v0_5 ∧ v0_5 ≤ 1200) (h_v0_6 : 0 ≤ v0_6 ∧ v0_6 ≤ 1200) (h_v0_7 : 0 ≤ v0_7 ∧ v0_7 ≤ 1200) (h_v0_8 : 0 ≤ v0_8 ∧ v0_8 ≤ 4) (h_v0_11 : 1 ≤ v0_11 ∧ v0_11 ≤ 1) (h_f1 : (∀ i : Nat, 0 ≤ f1 i ∧ f1 i ≤ 255)) (h_f3 : (∀ i : Nat, 0 ≤ f3 i ∧ f3 i ≤ 4)) (h_f5 : (∀ i : Nat, 0 ≤ f5 i ∧ f5 i ≤ 14)) (hr_0 : (f3 v0_11.toNatClampNeg) ≤ 3) (hx_0 : (∀ k : Nat, k < 71 → f2 k = zTab k)) : zw (fn_X12_readsFormat v0_5 v0_6 v0_7 v0_8 v0_9 v0_11 f1 f2 f3 f4 f5 f6 f7 f8 f9) (fun r => 0 ≤ r.1 ∧ r.1 ≤ 1200 ∧ 0 ≤ r.2.1 ∧ r.2.1 ≤ 1200 ∧ 0 ≤ r.2.2.1 ∧ r.2.2.1 ≤ 4 ∧ (∀ i : Nat, 0 ≤ r.2.2.2.2.1 i ∧ r.2.2.2.2.1 i ≤ 4) ∧ v0_6 ≤ r.1 ∧ v0_8 ≤ r.2.2.1 ∧ (∀ i : Nat, r.2.2.2.2.2.2.1 i = f7 i ∨ 1 ≤ r.2.2.2.2.2.2.1 i) ∧ (∀ x : Int32, 0 ≤ x → x < r.2.2.2.2.1 v0_11.toNatClampNeg → x < f3 v0_11.toNatClampNeg ∨ 1 ≤ r.2.2.2.2.2.2.1 (4 + x).toNatClampNeg) ∧ (∀ x : Int32, 0 ≤ x → x < 4 → r.2.2.2.2.2.2.1 x.toNatClampNeg = f7 x.toNatClampNeg) ∧ r.2.2.2.2.1 (0 : Int32).toNatClampNeg = f3 (0 : Int32).toNatClampNeg) := by
  unfold fn_X12_readsFormat
  refine zw_zb0 (sf_X12_newName v0_5 v0_6 v0_7 v0_8 v0_9 v0_11 f1 f2 f3 f4 f5 f6 (by first | with_reducible assumption | exact ⟨by with_reducible assumption, by with_reducible assumption⟩ | first | lia | grind [zu_at, zu_atL, zvn]) (by first | with_reducible assumption | exact ⟨by with_reducible assumption, by with_reducible assumption⟩ | first | lia | grind [zu_at, zu_atL, zvn]) (by first | with_reducible assumption | exact ⟨by with_reducible assumption, by with_reducible assumption⟩ | first | lia | grind [zu_at, zu_atL, zvn]) (by first | with_reducible assumption | exact ⟨by with_reducible assumption, by with_reducible assumption⟩ | first | lia | grind [zu_at, zu_atL, zvn]) (by first | with_reducible assumption | exact ⟨by with_reducible assumption, by with_reducible assumption⟩ | first | lia | grind [zu_at, zu_atL, zvn]) (by first | with_reducible assumption | exact ⟨by with_reducible assumption, by with_reducible assumption⟩ | first | lia | grind [zu_at, zu_atL, zvn]) (by first | with_reducible assumption | exact ⟨by with_reducible assumption, by with_reducible assumption⟩ | first | lia | grind [zu_at, zu_atL, zvn]) (by first | with_reducible assumption | exact ⟨by with_reducible assumption, by with_reducible assumption⟩ | first | lia | grind [zu_at, zu_atL, zvn]) (by first | with_reducible assumption | exact ⟨by with_reducible assumption, by with_reducible assumption⟩ | first | lia | grind [zu_at, zu_atL, zvn])) (fun o_1 ho_1 => ?_)
  obtain ⟨o_1_0, o_1_1, o_1_2, o_1_3, o_1_4⟩ := o_1
  try dsimp only at ho_1
  obtain ⟨ho_1_0, ho_1_1, ho_1_2, ho_1_3, ho_1_4, ho_1_5, ho_1_6, ho_1_7⟩ := ho_1
  refine zw_zb0 (sf_X12_must 1 v0_5 o_1_1 o_1_2 o_1_3 o_1_4 f1 f2 (by first | with_reducible assumption | exact ⟨by with_reducible assumption, by with_reducible assumption⟩ | first | lia | grind [zu_at, zu_atL, zvn]) (by first | with_reducible assumption | exact ⟨by with_reducible assumption, by with_reducible assumption⟩ | first | lia | grind [zu_at, zu_atL, zvn]) (by first | with_reducible assumption | exact ⟨by with_reducible assumption, by with_reducible assumption⟩ | first | lia | grind [zu_at, zu_atL, zvn]) (by first | with_reducible assumption | exact ⟨by with_reducible assumption, by with_reducible assumption⟩ | first | lia | grind [zu_at, zu_atL, zvn]) (by first | with_reducible assumption | exact ⟨by with_reducible assumption, by with_reducible assumption⟩ | first | lia | grind [zu_at, zu_atL, zvn]) (by first | with_reducible assumption | exact ⟨by with_reducible assumption, by with_reducible assumption⟩ | first | lia | grind [zu_at, zu_atL, zvn])) (fun o_5 ho_5 => ?_)
  obtain ⟨o_5_0, o_5_1, o_5_2, o_5_3⟩ := o_5
  try dsimp only at ho_5
  obtain ⟨ho_5_0, ho_5_1, ho_5_2, ho_5_3, ho_5_4, ho_5_5, ho_5_6, ho_5_7⟩ := ho_5
  refine zw_zb0 (sf_X12_number (1 : Int64) (1000000 : Int64) v0_5 o_5_0 o_5_1 o_5_2 o_5_3 f1 (by first | with_reducible assumption | exact ⟨by with_reducible assumption, by with_reducible assumption⟩ | first | lia | grind [zu_at, zu_atL, zvn]) (by first | with_reducible assumption | exact ⟨by with_reducible assumption, by with_reducible assumption⟩ | first | lia | grind [zu_at, zu_atL, zvn]) (by first | with_reducible assumption | exact ⟨by with_reducible assumption, by with_reducible assumption⟩ | first | lia | grind [zu_at, zu_atL, zvn]) (by first | with_reducible assumption | exact ⟨by with_reducible assumption, by with_reducible assumption⟩ | first | lia | grind [zu_at, zu_atL, zvn]) (by first | with_reducible assumption | exact ⟨by with_reducible assumption, by with_reducible assumption⟩ | first | lia | grind [zu_at, zu_atL, zvn])) (fun o_9 ho_9 => ?_)
  obtain ⟨o_9_0, o_9_1, o_9_2, o_9_3, o_9_4⟩ := o_9
  try dsimp only at ho_9
  obtain ⟨ho_9_0, ho_9_1, ho_9_2, ho_9_3, ho_9_4, ho_9_5, ho_9_6, ho_9_7, ho_9_8⟩ := ho_9
  refine zw_zb0 (sf_X12_must 2 v0_5 o_9_1 o_9_2 o_9_3 o_9_4 f1 f2 (by first | with_reducible assumption | exact ⟨by with_reducible assumption, by with_reducible assumption⟩ | first | lia | grind [zu_at, zu_atL, zvn]) (by first | with_reducible assumption | exact ⟨by with_reducible assumption, by with_reducible assumption⟩ | first | lia | grind [zu_at, zu_atL, zvn]) (by first | with_reducible assumption | exact ⟨by with_reducible assumption, by with_reducible assumption⟩ | first | lia | grind [zu_at, zu_atL, zvn]) (by first | with_reducible assumption | exact ⟨by with_reducible assumption, by with_reducible assumption⟩ | first | lia | grind [zu_at, zu_atL, zvn]) (by first | with_reducible assumption | exact ⟨by with_reducible assumption, by with_reducible assumption⟩ | first | lia | grind [zu_at, zu_atL, zvn]) (by first | with_reducible assumption | exact ⟨by with_reducible assumption, by with_reducible assumption⟩ | first | lia | grind [zu_at, zu_atL, zvn])) (fun o_13 ho_13 => ?_)
  obtain ⟨o_13_0, o_13_1, o_13_2, o_13_3⟩ := o_13
  try dsimp only at ho_13
  obtain ⟨ho_13_0, ho_13_1, ho_13_2, ho_13_3, ho_13_4, ho_13_5, ho_13_6, ho_13_7⟩ := ho_13
  refine zw_zb0 (sf_X12_digits v0_5 o_13_0 o_13_1 o_13_2 o_13_3 f1 (by first | with_reducible assumption | exact ⟨by with_reducible assumption, by with_reducible assumption⟩ | first | lia | grind [zu_at, zu_atL, zvn]) (by first | with_reducible assumption | exact ⟨by with_reducible assumption, by with_reducible assumption⟩ | first | lia | grind [zu_at, zu_atL, zvn]) (by first | with_reducible assumption | exact ⟨by with_reducible assumption, by with_reducible assumption⟩ | first | lia | grind [zu_at, zu_atL, zvn]) (by first | with_reducible assumption | exact ⟨by with_reducible assumption, by with_reducible assumption⟩ | first | lia | grind [zu_at, zu_atL, zvn]) (by first | with_reducible assumption | exact ⟨by with_reducible assumption, by with_reducible assumption⟩ | first | lia | grind [zu_at, zu_atL, zvn])) (fun o_17 ho_17 => ?_)
  obtain ⟨o_17_0, o_17_1, o_17_2, o_17_3, o_17_4⟩ := o_17
  try dsimp only at ho_17
  obtain ⟨ho_17_0, ho_17_1, ho_17_2, ho_17_3, ho_17_4, ho_17_5, ho_17_6, ho_17_7⟩ := ho_17
  refine zw_zb0 (sf_X12_goesWell o_17_3 (by first | with_reducible assumption | exact ⟨by with_reducible assumption, by with_reducible assumption⟩ | first | lia | grind [zu_at, zu_atL, zvn])) (fun o_21 ho_21 => ?_)
  obtain ⟨ho_21_0, ho_21_1, ho_21_2, ho_21_3, ho_21_4, ho_21_5⟩ := ho_21
  refine zw_zj (fun s_25 => 0 ≤ s_25.1 ∧ s_25.1 ≤ 4 ∧ v0_8 ≤ s_25.1 ∧ o_5_2 ≤ s_25.1 ∧ o_13_2 ≤ s_25.1 ∧ o_17_3 ≤ s_25.1) (fun s_25 Hj_25 => ?_) (fun j_25 hj_25 => ?_)
  · obtain ⟨s_25_0, s_25_1⟩ := s_25
    try dsimp only at Hj_25
    obtain ⟨Hj_25_0, Hj_25_1, Hj_25_2, Hj_25_3, Hj_25_4, Hj_25_5⟩ := Hj_25
    refine zw_zb0 (sf_X12_must 3 v0_5 o_17_1 o_17_2 s_25_0 s_25_1 f1 f2 (by first | with_reducible assumption | exact ⟨by with_reducible assumption, by with_reducible assumption⟩ | ((try clear hj_25); first | lia | grind [zu_at, zu_atL, zvn])) (by first | with_reducible assumption | exact ⟨by with_reducible assumption, by with_reducible assumption⟩ | ((try clear hj_25); first | lia | grind [zu_at, zu_atL, zvn])) (by first | with_reducible assumption | exact ⟨by with_reducible assumption, by with_reducible assumption⟩ | ((try clear hj_25); first | lia | grind [zu_at, zu_atL, zvn])) (by first | with_reducible assumption | exact ⟨by with_reducible assumption, by with_reducible assumption⟩ | ((try clear hj_25); first | lia | grind [zu_at, zu_atL, zvn])) (by first | with_reducible assumption | exact ⟨by with_reducible assumption, by with_reducible assumption⟩ | ((try clear hj_25); first | lia | grind [zu_at, zu_atL, zvn])) (by first | with_reducible assumption | exact ⟨by with_reducible assumption, by with_reducible assumption⟩ | ((try clear hj_25); first | lia | grind [zu_at, zu_atL, zvn]))) (fun o_26 ho_26 => ?_)
    obtain ⟨o_26_0, o_26_1, o_26_2, o_26_3⟩ := o_26
    try dsimp only at ho_26
    obtain ⟨ho_26_0, ho_26_1, ho_26_2, ho_26_3, ho_26_4, ho_26_5, ho_26_6, ho_26_7⟩ := ho_26
    refine zw_zb0 (sf_X12_number (0 : Int64) (999 : Int64) v0_5 o_26_0 o_26_1 o_26_2 o_26_3 f1 (by first | with_reducible assumption | exact ⟨by with_reducible assumption, by with_reducible assumption⟩ | ((try clear hj_25); first | lia | grind [zu_at, zu_atL, zvn])) (by first | with_reducible assumption | exact ⟨by with_reducible assumption, by with_reducible assumption⟩ | ((try clear hj_25); first | lia | grind [zu_at, zu_atL, zvn])) (by first | with_reducible assumption | exact ⟨by with_reducible assumption, by with_reducible assumption⟩ | ((try clear hj_25); first | lia | grind [zu_at, zu_atL, zvn])) (by first | with_reducible assumption | exact ⟨by with_reducible assumption, by with_reducible assumption⟩ | ((try clear hj_25); first | lia | grind [zu_at, zu_atL, zvn])) (by first | with_reducible assumption | exact ⟨by with_reducible assumption, by with_reducible assumption⟩ | ((try clear hj_25); first | lia | grind [zu_at, zu_atL, zvn]))) (fun o_30 ho_30 => ?_)
    obtain ⟨o_30_0, o_30_1, o_30_2, o_30_3, o_30_4⟩ := o_30
    try dsimp only at ho_30
    obtain ⟨ho_30_0, ho_30_1, ho_30_2, ho_30_3, ho_30_4, ho_30_5, ho_30_6, ho_30_7, ho_30_8⟩ := ho_30
    refine zw_zb0 (sf_X12_goesWell o_30_3 (by first | with_reducible assumption | exact ⟨by with_reducible assumption, by with_reducible assumption⟩ | ((try clear hj_25); first | lia | grind [zu_at, zu_atL, zvn]))) (fun o_34 ho_34 => ?_)
    obtain ⟨ho_34_0, ho_34_1, ho_34_2, ho_34_3, ho_34_4, ho_34_5⟩ := ho_34
    refine zw_if (fun c1 => ?_) (fun c1 => ?_)
    · refine zw_some ?_
      first | exact True.intro | ((try dsimp only); (repeat' apply And.intro) <;> first | with_reducible assumption | with_reducible exact fun _ => Or.inl rfl | with_reducible exact fun _ _ _ => rfl | with_reducible exact fun _ _ h => Or.inl h | with_reducible rfl | ((with_reducible refine zU7 ?_ ⟨?_, ?_⟩) <;> first | with_reducible assumption | lia) | ((with_reducible refine zU1 ?_) <;> grind [z32_in]) | with_reducible exact zU1m | ((with_reducible refine zU4 ?_) <;> ((try clear hj_25); lia)) | ((with_reducible refine zU2 (h_f3 _) ?_ ?_) <;> first | lia | grind [z32_in]) | ((with_reducible refine zU3 ?_) <;> ((try clear hj_25); lia)) | ((with_reducible refine zU5 (h_f5 _) ?_) <;> with_reducible assumption) | ((with_reducible refine zU6 ?_) <;> ((try clear hj_25); lia)) | ((with_reducible refine zU8 ⟨?_, ?_⟩) <;> ((try clear hj_25); first | lia | grind)) | ((with_reducible refine zO1 ?_) <;> with_reducible assumption) | ((with_reducible refine zO2 ?_) <;> with_reducible assumption) | ((try clear hj_25); first | lia | grind [zu_at, zu_atL, zvn]))
    refine zw_zg32 2 (by decide) (by (try dsimp only); ((try clear hj_25); first | lia | grind [zu_at, zu_atL, zvn])) ?_
    refine zw_zb0 (sf_X12_f (f3 v0_11.toNatClampNeg) v0_11 (by first | with_reducible assumption | exact ⟨by with_reducible assumption, by with_reducible assumption⟩ | ((try clear hj_25); first | lia | grind [zu_at, zu_atL, zvn])) (by first | with_reducible assumption | exact ⟨by with_reducible assumption, by with_reducible assumption⟩ | ((try clear hj_25); first | lia | grind [zu_at, zu_atL, zvn]))) (fun o_40 ho_40 => ?_)
    obtain ⟨ho_40_0, ho_40_1, ho_40_2, ho_40_3⟩ := ho_40
    refine zw_zg32 8 (by decide) (by (try dsimp only); ((try clear hj_25); first | lia | grind [zu_at, zu_atL, zvn])) ?_
    refine zw_some ?_
    first | exact True.intro | ((try dsimp only); (repeat' apply And.intro) <;> first | with_reducible assumption | with_reducible exact fun _ => Or.inl rfl | with_reducible exact fun _ _ _ => rfl | with_reducible exact fun _ _ h => Or.inl h | with_reducible rfl | ((with_reducible refine zU7 ?_ ⟨?_, ?_⟩) <;> first | with_reducible assumption | lia) | ((with_reducible refine zU1 ?_) <;> grind [z32_in]) | with_reducible exact zU1m | ((with_reducible refine zU4 ?_) <;> ((try clear hj_25); lia)) | ((with_reducible refine zU2 (h_f3 _) ?_ ?_) <;> first | lia | grind [z32_in]) | ((with_reducible refine zU3 ?_) <;> ((try clear hj_25); lia)) | ((with_reducible refine zU5 (h_f5 _) ?_) <;> with_reducible assumption) | ((with_reducible refine zU6 ?_) <;> ((try clear hj_25); lia)) | ((with_reducible refine zU8 ⟨?_, ?_⟩) <;> ((try clear hj_25); first | lia | grind)) | ((with_reducible refine zO1 ?_) <;> with_reducible assumption) | ((with_reducible refine zO2 ?_) <;> with_reducible assumption) | ((try clear hj_25); first | lia | grind [zu_at, zu_atL, zvn]))
  refine zw_if (fun c2 => ?_) (fun c2 => ?_)
  · exact hj_25 _ (by first | exact True.intro | ((try dsimp only); (repeat' apply And.intro) <;> first | with_reducible assumption | with_reducible exact fun _ => Or.inl rfl | with_reducible exact fun _ _ _ => rfl | with_reducible exact fun _ _ h => Or.inl h | with_reducible rfl | ((with_reducible refine zU7 ?_ ⟨?_, ?_⟩) <;> first | with_reducible assumption | lia) | ((with_reducible refine zU1 ?_) <;> grind [z32_in]) | with_reducible exact zU1m | ((with_reducible refine zU4 ?_) <;> ((try clear hj_25); lia)) | ((with_reducible refine zU2 (h_f3 _) ?_ ?_) <;> first | lia | grind [z32_in]) | ((with_reducible refine zU3 ?_) <;> ((try clear hj_25); lia)) | ((with_reducible refine zU5 (h_f5 _) ?_) <;> with_reducible assumption) | ((with_reducible refine zU6 ?_) <;> ((try clear hj_25); lia)) | ((with_reducible refine zU8 ⟨?_, ?_⟩) <;> ((try clear hj_25); first | lia | grind)) | ((with_reducible refine zO1 ?_) <;> with_reducible assumption) | ((with_reducible refine zO2 ?_) <;> with_reducible assumption) | ((try clear hj_25); first | lia | grind [zu_at, zu_atL, zvn])))
  refine zw_zb0 (sf_X12_isIn o_17_0 (1 : Int64) (1000000000 : Int64)) (fun o_46 ho_46 => ?_)
  obtain ⟨ho_46_0, ho_46_1, ho_46_2, ho_46_3, ho_46_4⟩ := ho_46
  refine zw_if (fun c3 => ?_) (fun c3 => ?_)
  · refine zw_zb0 (sf_X12_faults 2 o_17_2 o_17_3 o_17_4 (by first | with_reducible assumption | exact ⟨by with_reducible assumption, by with_reducible assumption⟩ | ((try clear hj_25); first | lia | grind [zu_at, zu_atL, zvn])) (by first | with_reducible assumption | exact ⟨by with_reducible assumption, by with_reducible assumption⟩ | ((try clear hj_25); first | lia | grind [zu_at, zu_atL, zvn]))) (fun o_51 ho_51 => ?_)
    obtain ⟨o_51_0, o_51_1⟩ := o_51
    try dsimp only at ho_51
    obtain ⟨ho_51_0, ho_51_1, ho_51_2, ho_51_3⟩ := ho_51
    exact hj_25 _ (by first | exact True.intro | ((try dsimp only); (repeat' apply And.intro) <;> first | with_reducible assumption | with_reducible exact fun _ => Or.inl rfl | with_reducible exact fun _ _ _ => rfl | with_reducible exact fun _ _ h => Or.inl h | with_reducible rfl | ((with_reducible refine zU7 ?_ ⟨?_, ?_⟩) <;> first | with_reducible assumption | lia) | ((with_reducible refine zU1 ?_) <;> grind [z32_in]) | with_reducible exact zU1m | ((with_reducible refine zU4 ?_) <;> ((try clear hj_25); lia)) | ((with_reducible refine zU2 (h_f3 _) ?_ ?_) <;> first | lia | grind [z32_in]) | ((with_reducible refine zU3 ?_) <;> ((try clear hj_25); lia)) | ((with_reducible refine zU5 (h_f5 _) ?_) <;> with_reducible assumption) | ((with_reducible refine zU6 ?_) <;> ((try clear hj_25); lia)) | ((with_reducible refine zU8 ⟨?_, ?_⟩) <;> ((try clear hj_25); first | lia | grind)) | ((with_reducible refine zO1 ?_) <;> with_reducible assumption) | ((with_reducible refine zO2 ?_) <;> with_reducible assumption) | ((try clear hj_25); first | lia | grind [zu_at, zu_atL, zvn])))
  exact hj_25 _ (by first | exact True.intro | ((try dsimp only); (repeat' apply And.intro) <;> first | with_reducible assumption | with_reducible exact fun _ => Or.inl rfl | with_reducible exact fun _ _ _ => rfl | with_reducible exact fun _ _ h => Or.inl h | with_reducible rfl | ((with_reducible refine zU7 ?_ ⟨?_, ?_⟩) <;> first | with_reducible assumption | lia) | ((with_reducible refine zU1 ?_) <;> grind [z32_in]) | with_reducible exact zU1m | ((with_reducible refine zU4 ?_) <;> ((try clear hj_25); lia)) | ((with_reducible refine zU2 (h_f3 _) ?_ ?_) <;> first | lia | grind [z32_in]) | ((with_reducible refine zU3 ?_) <;> ((try clear hj_25); lia)) | ((with_reducible refine zU5 (h_f5 _) ?_) <;> with_reducible assumption) | ((with_reducible refine zU6 ?_) <;> ((try clear hj_25); lia)) | ((with_reducible refine zU8 ⟨?_, ?_⟩) <;> ((try clear hj_25); first | lia | grind)) | ((with_reducible refine zO1 ?_) <;> with_reducible assumption) | ((with_reducible refine zO2 ?_) <;> with_reducible assumption) | ((try clear hj_25); first | lia | grind [zu_at, zu_atL, zvn])))
set_option maxHeartbeats 4000000 in
set_option maxRecDepth 100000 in
theorem sf_X12_newNumber (p1 : Int32) (p2 : Int32) (v0_11 : Int32) (f1 : Nat → Int32) (f2 : Nat → Int32) (f3 : Nat → Int32) (f4 : Nat → Int32) (f5 : Nat → Int32) (f6 : Nat → Int32) (f7 : Nat → Int32) (f8 : Nat → Int32) (h_v0_11 : 1 ≤ v0_11 ∧ v0_11 ≤ 1) (h_f1 : (∀ i : Nat, 0 ≤ f1 i ∧ f1 i ≤ 14)) (h_f4 : (∀ i : Nat, (-1) ≤ f4 i ∧ f4 i ≤ 13)) (h_f5 : (∀ i : Nat, (-1) ≤ f5 i ∧ f5 i ≤ 13)) (h_f6 : (∀ i : Nat, (-1) ≤ f6 i ∧ f6 i ≤ 3)) (h_f8 : (∀ i : Nat, 0 ≤ f8 i ∧ f8 i ≤ 13)) (hr_0 : (f1 v0_11.toNatClampNeg) ≤ 13) : zw (fn_X12_newNumber p1 p2 v0_11 f1 f2 f3 f4 f5 f6 f7 f8) (fun r => (∀ i : Nat, (-1) ≤ r.2.2.1 i ∧ r.2.2.1 i ≤ 13) ∧ (∀ i : Nat, (-1) ≤ r.2.2.2.1 i ∧ r.2.2.2.1 i ≤ 13) ∧ (∀ i : Nat, (-1) ≤ r.2.2.2.2.1 i ∧ r.2.2.2.2.1 i ≤ 3) ∧ (∀ i : Nat, 0 ≤ r.2.2.2.2.2.2 i ∧ r.2.2.2.2.2.2 i ≤ 13) ∧ (∀ i : Nat, r.2.2.2.2.1 i = f6 i ∨ r.2.2.2.2.1 i = (-1)) ∧ r.2.2.2.2.1 (14 + f1 v0_11.toNatClampNeg).toNatClampNeg = (-1)) := by
  unfold fn_X12_newNumber
  refine zw_zg32 2 (by decide) (by (try dsimp only); first | lia | grind [zu_at, zu_atL, zvn]) ?_
  refine zw_zb0 (sf_X12_n (f1 v0_11.toNatClampNeg) v0_11 (by first | with_reducible assumption | exact ⟨by with_reducible assumption, by with_reducible assumption⟩ | first | lia | grind [zu_at, zu_atL, zvn]) (by first | with_reducible assumption | exact ⟨by with_reducible assumption, by with_reducible assumption⟩ | first | lia | grind [zu_at, zu_atL, zvn])) (fun o_2 ho_2 => ?_)
  obtain ⟨ho_2_0, ho_2_1, ho_2_2, ho_2_3⟩ := ho_2
  refine zw_zg32 28 (by decide) (by (try dsimp only); first | lia | grind [zu_at, zu_atL, zvn]) ?_
  refine zw_zb0 (sf_X12_n (f1 v0_11.toNatClampNeg) v0_11 (by first | with_reducible assumption | exact ⟨by with_reducible assumption, by with_reducible assumption⟩ | first | lia | grind [zu_at, zu_atL, zvn]) (by first | with_reducible assumption | exact ⟨by with_reducible assumption, by with_reducible assumption⟩ | first | lia | grind [zu_at, zu_atL, zvn])) (fun o_7 ho_7 => ?_)
  obtain ⟨ho_7_0, ho_7_1, ho_7_2, ho_7_3⟩ := ho_7
  refine zw_zg32 28 (by decide) (by (try dsimp only); first | lia | grind [zu_at, zu_atL, zvn]) ?_
  refine zw_zb0 (sf_X12_n (f1 v0_11.toNatClampNeg) v0_11 (by first | with_reducible assumption | exact ⟨by with_reducible assumption, by with_reducible assumption⟩ | first | lia | grind [zu_at, zu_atL, zvn]) (by first | with_reducible assumption | exact ⟨by with_reducible assumption, by with_reducible assumption⟩ | first | lia | grind [zu_at, zu_atL, zvn])) (fun o_12 ho_12 => ?_)
  obtain ⟨ho_12_0, ho_12_1, ho_12_2, ho_12_3⟩ := ho_12
  refine zw_zg32 28 (by decide) (by (try dsimp only); first | lia | grind [zu_at, zu_atL, zvn]) ?_
  refine zw_zb0 (sf_X12_n (f1 v0_11.toNatClampNeg) v0_11 (by first | with_reducible assumption | exact ⟨by with_reducible assumption, by with_reducible assumption⟩ | first | lia | grind [zu_at, zu_atL, zvn]) (by first | with_reducible assumption | exact ⟨by with_reducible assumption, by with_reducible assumption⟩ | first | lia | grind [zu_at, zu_atL, zvn])) (fun o_17 ho_17 => ?_)
  obtain ⟨ho_17_0, ho_17_1, ho_17_2, ho_17_3⟩ := ho_17
  refine zw_zg32 28 (by decide) (by (try dsimp only); first | lia | grind [zu_at, zu_atL, zvn]) ?_
  refine zw_zb0 (sf_X12_n (f1 v0_11.toNatClampNeg) v0_11 (by first | with_reducible assumption | exact ⟨by with_reducible assumption, by with_reducible assumption⟩ | first | lia | grind [zu_at, zu_atL, zvn]) (by first | with_reducible assumption | exact ⟨by with_reducible assumption, by with_reducible assumption⟩ | first | lia | grind [zu_at, zu_atL, zvn])) (fun o_22 ho_22 => ?_)
  obtain ⟨ho_22_0, ho_22_1, ho_22_2, ho_22_3⟩ := ho_22
  refine zw_zg32 28 (by decide) (by (try dsimp only); first | lia | grind [zu_at, zu_atL, zvn]) ?_
  refine zw_zb0 (sf_X12_n (f1 v0_11.toNatClampNeg) v0_11 (by first | with_reducible assumption | exact ⟨by with_reducible assumption, by with_reducible assumption⟩ | first | lia | grind [zu_at, zu_atL, zvn]) (by first | with_reducible assumption | exact ⟨by with_reducible assumption, by with_reducible assumption⟩ | first | lia | grind [zu_at, zu_atL, zvn])) (fun o_27 ho_27 => ?_)
  obtain ⟨ho_27_0, ho_27_1, ho_27_2, ho_27_3⟩ := ho_27
  refine zw_zg32 28 (by decide) (by (try dsimp only); first | lia | grind [zu_at, zu_atL, zvn]) ?_
  refine zw_zb0 (sf_X12_n (f1 v0_11.toNatClampNeg) v0_11 (by first | with_reducible assumption | exact ⟨by with_reducible assumption, by with_reducible assumption⟩ | first | lia | grind [zu_at, zu_atL, zvn]) (by first | with_reducible assumption | exact ⟨by with_reducible assumption, by with_reducible assumption⟩ | first | lia | grind [zu_at, zu_atL, zvn])) (fun o_32 ho_32 => ?_)
  obtain ⟨ho_32_0, ho_32_1, ho_32_2, ho_32_3⟩ := ho_32
  refine zw_zg32 28 (by decide) (by (try dsimp only); first | lia | grind [zu_at, zu_atL, zvn]) ?_
  refine zw_some ?_
  first | exact True.intro | ((try dsimp only); (repeat' apply And.intro) <;> first | with_reducible assumption | with_reducible exact fun _ => Or.inl rfl | with_reducible exact fun _ _ _ => rfl | with_reducible exact fun _ _ h => Or.inl h | with_reducible rfl | ((with_reducible refine zU7 ?_ ⟨?_, ?_⟩) <;> first | with_reducible assumption | lia) | ((with_reducible refine zU1 ?_) <;> grind [z32_in]) | with_reducible exact zU1m | ((with_reducible refine zU4 ?_) <;> lia) | ((with_reducible refine zU2 (h_f3 _) ?_ ?_) <;> first | lia | grind [z32_in]) | ((with_reducible refine zU3 ?_) <;> lia) | ((with_reducible refine zU5 (h_f5 _) ?_) <;> with_reducible assumption) | ((with_reducible refine zU6 ?_) <;> lia) | ((with_reducible refine zU8 ⟨?_, ?_⟩) <;> first | lia | grind) | ((with_reducible refine zO1 ?_) <;> with_reducible assumption) | ((with_reducible refine zO2 ?_) <;> with_reducible assumption) | first | lia | grind [zu_at, zu_atL, zvn])
set_option maxHeartbeats 4000000 in
set_option maxRecDepth 100000 in
theorem sf_X12_readsInput (v0_5 : Int32) (v0_6 : Int32) (v0_7 : Int32) (v0_8 : Int32) (v0_9 : Int32) (v0_11 : Int32) (f1 : Nat → Int32) (f2 : Nat → Int32) (f3 : Nat → Int32) (f4 : Nat → Int32) (f5 : Nat → Int32) (f6 : Nat → Int32) (f7 : Nat → Int32) (f8 : Nat → Int32) (f9 : Nat → Int32) (f10 : Nat → Int32) (f11 : Nat → Int32) (f12 : Nat → Int32) (f13 : Nat → Int64) (f14 : Nat → Int64) (h_v0_5 : 0 ≤ v0_5 ∧ v0_5 ≤ 1200) (h_v0_6 : 0 ≤ v0_6 ∧ v0_6 ≤ 1200) (h_v0_7 : 0 ≤ v0_7 ∧ v0_7 ≤ 1200) (h_v0_8 : 0 ≤ v0_8 ∧ v0_8 ≤ 4) (h_v0_11 : 1 ≤ v0_11 ∧ v0_11 ≤ 1) (h_f1 : (∀ i : Nat, 0 ≤ f1 i ∧ f1 i ≤ 255)) (h_f3 : (∀ i : Nat, 0 ≤ f3 i ∧ f3 i ≤ 4)) (h_f5 : (∀ i : Nat, 0 ≤ f5 i ∧ f5 i ≤ 14)) (h_f8 : (∀ i : Nat, (-1) ≤ f8 i ∧ f8 i ≤ 13)) (h_f9 : (∀ i : Nat, (-1) ≤ f9 i ∧ f9 i ≤ 13)) (h_f10 : (∀ i : Nat, (-1) ≤ f10 i ∧ f10 i ≤ 3)) (h_f12 : (∀ i : Nat, 0 ≤ f12 i ∧ f12 i ≤ 13)) (hr_0 : (f5 v0_11.toNatClampNeg) ≤ 13) (hx_0 : (∀ k : Nat, k < 71 → f2 k = zTab k)) : zw (fn_X12_readsInput v0_5 v0_6 v0_7 v0_8 v0_9 v0_11 f1 f2 f3 f4 f5 f6 f7 f8 f9 f10 f11 f12 f13 f14) (fun r => 0 ≤ r.1 ∧ r.1 ≤ 1200 ∧ 0 ≤ r.2.1 ∧ r.2.1 ≤ 1200 ∧ 0 ≤ r.2.2.1 ∧ r.2.2.1 ≤ 4 ∧ (∀ i : Nat, 0 ≤ r.2.2.2.2.1 i ∧ r.2.2.2.2.1 i ≤ 14) ∧ (∀ i : Nat, (-1) ≤ r.2.2.2.2.2.2.2.1 i ∧ r.2.2.2.2.2.2.2.1 i ≤ 13) ∧ (∀ i : Nat, (-1) ≤ r.2.2.2.2.2.2.2.2.1 i ∧ r.2.2.2.2.2.2.2.2.1 i ≤ 13) ∧ (∀ i : Nat, (-1) ≤ r.2.2.2.2.2.2.2.2.2.1 i ∧ r.2.2.2.2.2.2.2.2.2.1 i ≤ 3) ∧ (∀ i : Nat, 0 ≤ r.2.2.2.2.2.2.2.2.2.2.2.1 i ∧ r.2.2.2.2.2.2.2.2.2.2.2.1 i ≤ 13) ∧ v0_6 ≤ r.1 ∧ v0_8 ≤ r.2.2.1 ∧ (∀ i : Nat, r.2.2.2.2.2.2.2.2.2.1 i = f10 i ∨ r.2.2.2.2.2.2.2.2.2.1 i = (-1)) ∧ (∀ k : Int32, 0 ≤ k → k < r.2.2.2.2.1 v0_11.toNatClampNeg → k < f5 v0_11.toNatClampNeg ∨ r.2.2.2.2.2.2.2.2.2.1 (14 + k).toNatClampNeg = (-1)) ∧ r.2.2.2.2.1 (0 : Int32).toNatClampNeg = f5 (0 : Int32).toNatClampNeg) := by
  unfold fn_X12_readsInput
  refine zw_zb0 (sf_X12_newName v0_5 v0_6 v0_7 v0_8 v0_9 v0_11 f1 f2 f3 f4 f5 f6 (by first | with_reducible assumption | exact ⟨by with_reducible assumption, by with_reducible assumption⟩ | first | lia | grind [zu_at, zu_atL, zvn]) (by first | with_reducible assumption | exact ⟨by with_reducible assumption, by with_reducible assumption⟩ | first | lia | grind [zu_at, zu_atL, zvn]) (by first | with_reducible assumption | exact ⟨by with_reducible assumption, by with_reducible assumption⟩ | first | lia | grind [zu_at, zu_atL, zvn]) (by first | with_reducible assumption | exact ⟨by with_reducible assumption, by with_reducible assumption⟩ | first | lia | grind [zu_at, zu_atL, zvn]) (by first | with_reducible assumption | exact ⟨by with_reducible assumption, by with_reducible assumption⟩ | first | lia | grind [zu_at, zu_atL, zvn]) (by first | with_reducible assumption | exact ⟨by with_reducible assumption, by with_reducible assumption⟩ | first | lia | grind [zu_at, zu_atL, zvn]) (by first | with_reducible assumption | exact ⟨by with_reducible assumption, by with_reducible assumption⟩ | first | lia | grind [zu_at, zu_atL, zvn]) (by first | with_reducible assumption | exact ⟨by with_reducible assumption, by with_reducible assumption⟩ | first | lia | grind [zu_at, zu_atL, zvn]) (by first | with_reducible assumption | exact ⟨by with_reducible assumption, by with_reducible assumption⟩ | first | lia | grind [zu_at, zu_atL, zvn])) (fun o_1 ho_1 => ?_)
  obtain ⟨o_1_0, o_1_1, o_1_2, o_1_3, o_1_4⟩ := o_1
  try dsimp only at ho_1
  obtain ⟨ho_1_0, ho_1_1, ho_1_2, ho_1_3, ho_1_4, ho_1_5, ho_1_6, ho_1_7⟩ := ho_1
  refine zw_zb0 (sf_X12_signed ((-10000000) : Int64) (10000000 : Int64) v0_5 o_1_1 o_1_2 o_1_3 o_1_4 f1 (by first | with_reducible assumption | exact ⟨by with_reducible assumption, by with_reducible assumption⟩ | first | lia | grind [zu_at, zu_atL, zvn]) (by first | with_reducible assumption | exact ⟨by with_reducible assumption, by with_reducible assumption⟩ | first | lia | grind [zu_at, zu_atL, zvn]) (by first | with_reducible assumption | exact ⟨by with_reducible assumption, by with_reducible assumption⟩ | first | lia | grind [zu_at, zu_atL, zvn]) (by first | with_reducible assumption | exact ⟨by with_reducible assumption, by with_reducible assumption⟩ | first | lia | grind [zu_at, zu_atL, zvn]) (by first | with_reducible assumption | exact ⟨by with_reducible assumption, by with_reducible assumption⟩ | first | lia | grind [zu_at, zu_atL, zvn])) (fun o_5 ho_5 => ?_)
  obtain ⟨o_5_0, o_5_1, o_5_2, o_5_3, o_5_4⟩ := o_5
  try dsimp only at ho_5
  obtain ⟨ho_5_0, ho_5_1, ho_5_2, ho_5_3, ho_5_4, ho_5_5, ho_5_6, ho_5_7⟩ := ho_5
  refine zw_zb0 (sf_X12_signed ((-10000000) : Int64) (10000000 : Int64) v0_5 o_5_1 o_5_2 o_5_3 o_5_4 f1 (by first | with_reducible assumption | exact ⟨by with_reducible assumption, by with_reducible assumption⟩ | first | lia | grind [zu_at, zu_atL, zvn]) (by first | with_reducible assumption | exact ⟨by with_reducible assumption, by with_reducible assumption⟩ | first | lia | grind [zu_at, zu_atL, zvn]) (by first | with_reducible assumption | exact ⟨by with_reducible assumption, by with_reducible assumption⟩ | first | lia | grind [zu_at, zu_atL, zvn]) (by first | with_reducible assumption | exact ⟨by with_reducible assumption, by with_reducible assumption⟩ | first | lia | grind [zu_at, zu_atL, zvn]) (by first | with_reducible assumption | exact ⟨by with_reducible assumption, by with_reducible assumption⟩ | first | lia | grind [zu_at, zu_atL, zvn])) (fun o_9 ho_9 => ?_)
  obtain ⟨o_9_0, o_9_1, o_9_2, o_9_3, o_9_4⟩ := o_9
  try dsimp only at ho_9
  obtain ⟨ho_9_0, ho_9_1, ho_9_2, ho_9_3, ho_9_4, ho_9_5, ho_9_6, ho_9_7⟩ := ho_9
  refine zw_zb0 (sf_X12_goesWell o_9_3 (by first | with_reducible assumption | exact ⟨by with_reducible assumption, by with_reducible assumption⟩ | first | lia | grind [zu_at, zu_atL, zvn])) (fun o_13 ho_13 => ?_)
  obtain ⟨ho_13_0, ho_13_1, ho_13_2, ho_13_3, ho_13_4, ho_13_5⟩ := ho_13
  refine zw_zj (fun s_17 => 0 ≤ s_17.1 ∧ s_17.1 ≤ 4 ∧ v0_8 ≤ s_17.1 ∧ o_1_3 ≤ s_17.1 ∧ o_5_3 ≤ s_17.1 ∧ o_9_3 ≤ s_17.1) (fun s_17 Hj_17 => ?_) (fun j_17 hj_17 => ?_)
  · obtain ⟨s_17_0, s_17_1⟩ := s_17
    try dsimp only at Hj_17
    obtain ⟨Hj_17_0, Hj_17_1, Hj_17_2, Hj_17_3, Hj_17_4, Hj_17_5⟩ := Hj_17
    refine zw_zb0 (sf_X12_goesWell s_17_0 (by first | with_reducible assumption | exact ⟨by with_reducible assumption, by with_reducible assumption⟩ | ((try clear hj_17); first | lia | grind [zu_at, zu_atL, zvn]))) (fun o_18 ho_18 => ?_)
    obtain ⟨ho_18_0, ho_18_1, ho_18_2, ho_18_3, ho_18_4, ho_18_5⟩ := ho_18
    refine zw_if (fun c1 => ?_) (fun c1 => ?_)
    · refine zw_some ?_
      first | exact True.intro | ((try dsimp only); (repeat' apply And.intro) <;> first | with_reducible assumption | with_reducible exact fun _ => Or.inl rfl | with_reducible exact fun _ _ _ => rfl | with_reducible exact fun _ _ h => Or.inl h | with_reducible rfl | ((with_reducible refine zU7 ?_ ⟨?_, ?_⟩) <;> first | with_reducible assumption | lia) | ((with_reducible refine zU1 ?_) <;> grind [z32_in]) | with_reducible exact zU1m | ((with_reducible refine zU4 ?_) <;> ((try clear hj_17); lia)) | ((with_reducible refine zU2 (h_f3 _) ?_ ?_) <;> first | lia | grind [z32_in]) | ((with_reducible refine zU3 ?_) <;> ((try clear hj_17); lia)) | ((with_reducible refine zU5 (h_f5 _) ?_) <;> with_reducible assumption) | ((with_reducible refine zU6 ?_) <;> ((try clear hj_17); lia)) | ((with_reducible refine zU8 ⟨?_, ?_⟩) <;> ((try clear hj_17); first | lia | grind)) | ((with_reducible refine zO1 ?_) <;> with_reducible assumption) | ((with_reducible refine zO2 ?_) <;> with_reducible assumption) | ((try clear hj_17); first | lia | grind [zu_at, zu_atL, zvn]))
    refine zw_zb0 (sf_X12_newNumber o_1_0 0 v0_11 f5 f6 f7 f8 f9 f10 f11 f12 (by first | with_reducible assumption | exact ⟨by with_reducible assumption, by with_reducible assumption⟩ | ((try clear hj_17); first | lia | grind [zu_at, zu_atL, zvn])) (by first | with_reducible assumption | exact ⟨by with_reducible assumption, by with_reducible assumption⟩ | ((try clear hj_17); first | lia | grind [zu_at, zu_atL, zvn])) (by first | with_reducible assumption | exact ⟨by with_reducible assumption, by with_reducible assumption⟩ | ((try clear hj_17); first | lia | grind [zu_at, zu_atL, zvn])) (by first | with_reducible assumption | exact ⟨by with_reducible assumption, by with_reducible assumption⟩ | ((try clear hj_17); first | lia | grind [zu_at, zu_atL, zvn])) (by first | with_reducible assumption | exact ⟨by with_reducible assumption, by with_reducible assumption⟩ | ((try clear hj_17); first | lia | grind [zu_at, zu_atL, zvn])) (by first | with_reducible assumption | exact ⟨by with_reducible assumption, by with_reducible assumption⟩ | ((try clear hj_17); first | lia | grind [zu_at, zu_atL, zvn])) (by first | with_reducible assumption | exact ⟨by with_reducible assumption, by with_reducible assumption⟩ | ((try clear hj_17); first | lia | grind [zu_at, zu_atL, zvn]))) (fun o_23 ho_23 => ?_)
    obtain ⟨o_23_0, o_23_1, o_23_2, o_23_3, o_23_4, o_23_5, o_23_6⟩ := o_23
    try dsimp only at ho_23
    obtain ⟨ho_23_0, ho_23_1, ho_23_2, ho_23_3, ho_23_4, ho_23_5⟩ := ho_23
    refine zw_zg32 2 (by decide) (by (try dsimp only); ((try clear hj_17); first | lia | grind [zu_at, zu_atL, zvn])) ?_
    refine zw_zb0 (sf_X12_n (f5 v0_11.toNatClampNeg) v0_11 (by first | with_reducible assumption | exact ⟨by with_reducible assumption, by with_reducible assumption⟩ | ((try clear hj_17); first | lia | grind [zu_at, zu_atL, zvn])) (by first | with_reducible assumption | exact ⟨by with_reducible assumption, by with_reducible assumption⟩ | ((try clear hj_17); first | lia | grind [zu_at, zu_atL, zvn]))) (fun o_28 ho_28 => ?_)
    obtain ⟨ho_28_0, ho_28_1, ho_28_2, ho_28_3⟩ := ho_28
    refine zw_zg32 28 (by decide) (by (try dsimp only); ((try clear hj_17); first | lia | grind [zu_at, zu_atL, zvn])) ?_
    refine zw_zb0 (sf_X12_n (f5 v0_11.toNatClampNeg) v0_11 (by first | with_reducible assumption | exact ⟨by with_reducible assumption, by with_reducible assumption⟩ | ((try clear hj_17); first | lia | grind [zu_at, zu_atL, zvn])) (by first | with_reducible assumption | exact ⟨by with_reducible assumption, by with_reducible assumption⟩ | ((try clear hj_17); first | lia | grind [zu_at, zu_atL, zvn]))) (fun o_33 ho_33 => ?_)
    obtain ⟨ho_33_0, ho_33_1, ho_33_2, ho_33_3⟩ := ho_33
    refine zw_zg32 28 (by decide) (by (try dsimp only); ((try clear hj_17); first | lia | grind [zu_at, zu_atL, zvn])) ?_
    refine zw_some ?_
    first | exact True.intro | ((try dsimp only); (repeat' apply And.intro) <;> first | with_reducible assumption | with_reducible exact fun _ => Or.inl rfl | with_reducible exact fun _ _ _ => rfl | with_reducible exact fun _ _ h => Or.inl h | with_reducible rfl | ((with_reducible refine zU7 ?_ ⟨?_, ?_⟩) <;> first | with_reducible assumption | lia) | ((with_reducible refine zU1 ?_) <;> grind [z32_in]) | with_reducible exact zU1m | ((with_reducible refine zU4 ?_) <;> ((try clear hj_17); lia)) | ((with_reducible refine zU2 (h_f3 _) ?_ ?_) <;> first | lia | grind [z32_in]) | ((with_reducible refine zU3 ?_) <;> ((try clear hj_17); lia)) | ((with_reducible refine zU5 (h_f5 _) ?_) <;> with_reducible assumption) | ((with_reducible refine zU6 ?_) <;> ((try clear hj_17); lia)) | ((with_reducible refine zU8 ⟨?_, ?_⟩) <;> ((try clear hj_17); first | lia | grind)) | ((with_reducible refine zO1 ?_) <;> with_reducible assumption) | ((with_reducible refine zO2 ?_) <;> with_reducible assumption) | ((try clear hj_17); first | lia | grind [zu_at, zu_atL, zvn]))
  refine zw_if (fun c2 => ?_) (fun c2 => ?_)
  · exact hj_17 _ (by first | exact True.intro | ((try dsimp only); (repeat' apply And.intro) <;> first | with_reducible assumption | with_reducible exact fun _ => Or.inl rfl | with_reducible exact fun _ _ _ => rfl | with_reducible exact fun _ _ h => Or.inl h | with_reducible rfl | ((with_reducible refine zU7 ?_ ⟨?_, ?_⟩) <;> first | with_reducible assumption | lia) | ((with_reducible refine zU1 ?_) <;> grind [z32_in]) | with_reducible exact zU1m | ((with_reducible refine zU4 ?_) <;> ((try clear hj_17); lia)) | ((with_reducible refine zU2 (h_f3 _) ?_ ?_) <;> first | lia | grind [z32_in]) | ((with_reducible refine zU3 ?_) <;> ((try clear hj_17); lia)) | ((with_reducible refine zU5 (h_f5 _) ?_) <;> with_reducible assumption) | ((with_reducible refine zU6 ?_) <;> ((try clear hj_17); lia)) | ((with_reducible refine zU8 ⟨?_, ?_⟩) <;> ((try clear hj_17); first | lia | grind)) | ((with_reducible refine zO1 ?_) <;> with_reducible assumption) | ((with_reducible refine zO2 ?_) <;> with_reducible assumption) | ((try clear hj_17); first | lia | grind [zu_at, zu_atL, zvn])))
  refine zw_ifc (lg_cmp_ge _ _) (fun c3 => ?_) (fun c3 => ?_)
  · exact hj_17 _ (by first | exact True.intro | ((try dsimp only); (repeat' apply And.intro) <;> first | with_reducible assumption | with_reducible exact fun _ => Or.inl rfl | with_reducible exact fun _ _ _ => rfl | with_reducible exact fun _ _ h => Or.inl h | with_reducible rfl | ((with_reducible refine zU7 ?_ ⟨?_, ?_⟩) <;> first | with_reducible assumption | lia) | ((with_reducible refine zU1 ?_) <;> grind [z32_in]) | with_reducible exact zU1m | ((with_reducible refine zU4 ?_) <;> ((try clear hj_17); lia)) | ((with_reducible refine zU2 (h_f3 _) ?_ ?_) <;> first | lia | grind [z32_in]) | ((with_reducible refine zU3 ?_) <;> ((try clear hj_17); lia)) | ((with_reducible refine zU5 (h_f5 _) ?_) <;> with_reducible assumption) | ((with_reducible refine zU6 ?_) <;> ((try clear hj_17); lia)) | ((with_reducible refine zU8 ⟨?_, ?_⟩) <;> ((try clear hj_17); first | lia | grind)) | ((with_reducible refine zO1 ?_) <;> with_reducible assumption) | ((with_reducible refine zO2 ?_) <;> with_reducible assumption) | ((try clear hj_17); first | lia | grind [zu_at, zu_atL, zvn])))
  refine zw_zb0 (sf_X12_faults 2 o_9_2 o_9_3 o_9_4 (by first | with_reducible assumption | exact ⟨by with_reducible assumption, by with_reducible assumption⟩ | ((try clear hj_17); first | lia | grind [zu_at, zu_atL, zvn])) (by first | with_reducible assumption | exact ⟨by with_reducible assumption, by with_reducible assumption⟩ | ((try clear hj_17); first | lia | grind [zu_at, zu_atL, zvn]))) (fun o_40 ho_40 => ?_)
  obtain ⟨o_40_0, o_40_1⟩ := o_40
  try dsimp only at ho_40
  obtain ⟨ho_40_0, ho_40_1, ho_40_2, ho_40_3⟩ := ho_40
  exact hj_17 _ (by first | exact True.intro | ((try dsimp only); (repeat' apply And.intro) <;> first | with_reducible assumption | with_reducible exact fun _ => Or.inl rfl | with_reducible exact fun _ _ _ => rfl | with_reducible exact fun _ _ h => Or.inl h | with_reducible rfl | ((with_reducible refine zU7 ?_ ⟨?_, ?_⟩) <;> first | with_reducible assumption | lia) | ((with_reducible refine zU1 ?_) <;> grind [z32_in]) | with_reducible exact zU1m | ((with_reducible refine zU4 ?_) <;> ((try clear hj_17); lia)) | ((with_reducible refine zU2 (h_f3 _) ?_ ?_) <;> first | lia | grind [z32_in]) | ((with_reducible refine zU3 ?_) <;> ((try clear hj_17); lia)) | ((with_reducible refine zU5 (h_f5 _) ?_) <;> with_reducible assumption) | ((with_reducible refine zU6 ?_) <;> ((try clear hj_17); lia)) | ((with_reducible refine zU8 ⟨?_, ?_⟩) <;> ((try clear hj_17); first | lia | grind)) | ((with_reducible refine zO1 ?_) <;> with_reducible assumption) | ((with_reducible refine zO2 ?_) <;> with_reducible assumption) | ((try clear hj_17); first | lia | grind [zu_at, zu_atL, zvn])))
set_option maxHeartbeats 4000000 in
set_option maxRecDepth 100000 in
theorem sf_X12_readsWhat (v0_5 : Int32) (v0_6 : Int32) (v0_7 : Int32) (v0_8 : Int32) (v0_9 : Int32) (v0_11 : Int32) (f1 : Nat → Int32) (f2 : Nat → Int32) (f3 : Nat → Int32) (f4 : Nat → Int32) (h_v0_5 : 0 ≤ v0_5 ∧ v0_5 ≤ 1200) (h_v0_6 : 0 ≤ v0_6 ∧ v0_6 ≤ 1200) (h_v0_7 : 0 ≤ v0_7 ∧ v0_7 ≤ 1200) (h_v0_8 : 0 ≤ v0_8 ∧ v0_8 ≤ 4) (h_v0_11 : 1 ≤ v0_11 ∧ v0_11 ≤ 1) (h_f1 : (∀ i : Nat, 0 ≤ f1 i ∧ f1 i ≤ 255)) (h_f3 : (∀ i : Nat, 0 ≤ f3 i ∧ f3 i ≤ 14)) (hx_0 : (∀ k : Nat, k < 71 → f2 k = zTab k)) : zw (fn_X12_readsWhat v0_5 v0_6 v0_7 v0_8 v0_9 v0_11 f1 f2 f3 f4) (fun r => 0 ≤ r.2.2.1 ∧ r.2.2.1 ≤ 1200 ∧ 0 ≤ r.2.2.2.1 ∧ r.2.2.2.1 ≤ 1200 ∧ 0 ≤ r.2.2.2.2.1 ∧ r.2.2.2.2.1 ≤ 4 ∧ (-1) ≤ r.1 ∧ r.1 ≤ 13 ∧ v0_6 ≤ r.2.2.1 ∧ v0_8 ≤ r.2.2.2.2.1 ∧ v0_8 ≤ r.1 + 4) := by
  unfold fn_X12_readsWhat
  refine zw_zb0 (sf_X12_goesWell v0_8 (by first | with_reducible assumption | exact ⟨by with_reducible assumption, by with_reducible assumption⟩ | first | lia | grind [zu_at, zu_atL, zvn])) (fun o_1 ho_1 => ?_)
  obtain ⟨ho_1_0, ho_1_1, ho_1_2, ho_1_3, ho_1_4, ho_1_5⟩ := ho_1
  refine zw_if (fun c1 => ?_) (fun c1 => ?_)
  · refine zw_zb0 (sf_X12_toldNumber v0_5 v0_6 v0_7 v0_8 v0_9 v0_11 f1 f2 f3 f4 (by first | with_reducible assumption | exact ⟨by with_reducible assumption, by with_reducible assumption⟩ | first | lia | grind [zu_at, zu_atL, zvn]) (by first | with_reducible assumption | exact ⟨by with_reducible assumption, by with_reducible assumption⟩ | first | lia | grind [zu_at, zu_atL, zvn]) (by first | with_reducible assumption | exact ⟨by with_reducible assumption, by with_reducible assumption⟩ | first | lia | grind [zu_at, zu_atL, zvn]) (by first | with_reducible assumption | exact ⟨by with_reducible assumption, by with_reducible assumption⟩ | first | lia | grind [zu_at, zu_atL, zvn]) (by first | with_reducible assumption | exact ⟨by with_reducible assumption, by with_reducible assumption⟩ | first | lia | grind [zu_at, zu_atL, zvn]) (by first | with_reducible assumption | exact ⟨by with_reducible assumption, by with_reducible assumption⟩ | first | lia | grind [zu_at, zu_atL, zvn]) (by first | with_reducible assumption | exact ⟨by with_reducible assumption, by with_reducible assumption⟩ | first | lia | grind [zu_at, zu_atL, zvn]) (by first | with_reducible assumption | exact ⟨by with_reducible assumption, by with_reducible assumption⟩ | first | lia | grind [zu_at, zu_atL, zvn])) (fun o_6 ho_6 => ?_)
    obtain ⟨o_6_0, o_6_1, o_6_2, o_6_3, o_6_4⟩ := o_6
    try dsimp only at ho_6
    obtain ⟨ho_6_0, ho_6_1, ho_6_2, ho_6_3, ho_6_4, ho_6_5, ho_6_6, ho_6_7, ho_6_8, ho_6_9⟩ := ho_6
    refine zw_some ?_
    first | exact True.intro | ((try dsimp only); (repeat' apply And.intro) <;> first | with_reducible assumption | first | lia | grind [zu_at, zu_atL, zvn])
  refine zw_zb0 (sf_X12_here v0_5 v0_6 f1 (by first | with_reducible assumption | exact ⟨by with_reducible assumption, by with_reducible assumption⟩ | first | lia | grind [zu_at, zu_atL, zvn]) (by first | with_reducible assumption | exact ⟨by with_reducible assumption, by with_reducible assumption⟩ | first | lia | grind [zu_at, zu_atL, zvn]) (by first | with_reducible assumption | exact ⟨by with_reducible assumption, by with_reducible assumption⟩ | first | lia | grind [zu_at, zu_atL, zvn])) (fun o_10 ho_10 => ?_)
  obtain ⟨o_10_0, o_10_1⟩ := o_10
  try dsimp only at ho_10
  obtain ⟨ho_10_0, ho_10_1, ho_10_2, ho_10_3, ho_10_4, ho_10_5, ho_10_6⟩ := ho_10
  refine zw_if (fun c2 => ?_) (fun c2 => ?_)
  · refine zw_zb0 (sf_X12_signed ((-1000000) : Int64) (1000000 : Int64) v0_5 o_10_1 v0_7 v0_8 v0_9 f1 (by first | with_reducible assumption | exact ⟨by with_reducible assumption, by with_reducible assumption⟩ | first | lia | grind [zu_at, zu_atL, zvn]) (by first | with_reducible assumption | exact ⟨by with_reducible assumption, by with_reducible assumption⟩ | first | lia | grind [zu_at, zu_atL, zvn]) (by first | with_reducible assumption | exact ⟨by with_reducible assumption, by with_reducible assumption⟩ | first | lia | grind [zu_at, zu_atL, zvn]) (by first | with_reducible assumption | exact ⟨by with_reducible assumption, by with_reducible assumption⟩ | first | lia | grind [zu_at, zu_atL, zvn]) (by first | with_reducible assumption | exact ⟨by with_reducible assumption, by with_reducible assumption⟩ | first | lia | grind [zu_at, zu_atL, zvn])) (fun o_15 ho_15 => ?_)
    obtain ⟨o_15_0, o_15_1, o_15_2, o_15_3, o_15_4⟩ := o_15
    try dsimp only at ho_15
    obtain ⟨ho_15_0, ho_15_1, ho_15_2, ho_15_3, ho_15_4, ho_15_5, ho_15_6, ho_15_7⟩ := ho_15
    refine zw_some ?_
    first | exact True.intro | ((try dsimp only); (repeat' apply And.intro) <;> first | with_reducible assumption | first | lia | grind [zu_at, zu_atL, zvn])
  refine zw_zb0 (sf_X12_isDigit o_10_1 v0_5 f1 (by first | with_reducible assumption | exact ⟨by with_reducible assumption, by with_reducible assumption⟩ | first | lia | grind [zu_at, zu_atL, zvn]) (by first | with_reducible assumption | exact ⟨by with_reducible assumption, by with_reducible assumption⟩ | first | lia | grind [zu_at, zu_atL, zvn])) (fun o_19 ho_19 => ?_)
  obtain ⟨ho_19_0, ho_19_1, ho_19_2, ho_19_3, ho_19_4, ho_19_5⟩ := ho_19
  refine zw_if (fun c3 => ?_) (fun c3 => ?_)
  · refine zw_zb0 (sf_X12_toldNumber v0_5 o_10_1 v0_7 v0_8 v0_9 v0_11 f1 f2 f3 f4 (by first | with_reducible assumption | exact ⟨by with_reducible assumption, by with_reducible assumption⟩ | first | lia | grind [zu_at, zu_atL, zvn]) (by first | with_reducible assumption | exact ⟨by with_reducible assumption, by with_reducible assumption⟩ | first | lia | grind [zu_at, zu_atL, zvn]) (by first | with_reducible assumption | exact ⟨by with_reducible assumption, by with_reducible assumption⟩ | first | lia | grind [zu_at, zu_atL, zvn]) (by first | with_reducible assumption | exact ⟨by with_reducible assumption, by with_reducible assumption⟩ | first | lia | grind [zu_at, zu_atL, zvn]) (by first | with_reducible assumption | exact ⟨by with_reducible assumption, by with_reducible assumption⟩ | first | lia | grind [zu_at, zu_atL, zvn]) (by first | with_reducible assumption | exact ⟨by with_reducible assumption, by with_reducible assumption⟩ | first | lia | grind [zu_at, zu_atL, zvn]) (by first | with_reducible assumption | exact ⟨by with_reducible assumption, by with_reducible assumption⟩ | first | lia | grind [zu_at, zu_atL, zvn]) (by first | with_reducible assumption | exact ⟨by with_reducible assumption, by with_reducible assumption⟩ | first | lia | grind [zu_at, zu_atL, zvn])) (fun o_24 ho_24 => ?_)
    obtain ⟨o_24_0, o_24_1, o_24_2, o_24_3, o_24_4⟩ := o_24
    try dsimp only at ho_24
    obtain ⟨ho_24_0, ho_24_1, ho_24_2, ho_24_3, ho_24_4, ho_24_5, ho_24_6, ho_24_7, ho_24_8, ho_24_9⟩ := ho_24
    refine zw_some ?_
    first | exact True.intro | ((try dsimp only); (repeat' apply And.intro) <;> first | with_reducible assumption | first | lia | grind [zu_at, zu_atL, zvn])
  refine zw_zb0 (sf_X12_signed ((-1000000) : Int64) (1000000 : Int64) v0_5 o_10_1 v0_7 v0_8 v0_9 f1 (by first | with_reducible assumption | exact ⟨by with_reducible assumption, by with_reducible assumption⟩ | first | lia | grind [zu_at, zu_atL, zvn]) (by first | with_reducible assumption | exact ⟨by with_reducible assumption, by with_reducible assumption⟩ | first | lia | grind [zu_at, zu_atL, zvn]) (by first | with_reducible assumption | exact ⟨by with_reducible assumption, by with_reducible assumption⟩ | first | lia | grind [zu_at, zu_atL, zvn]) (by first | with_reducible assumption | exact ⟨by with_reducible assumption, by with_reducible assumption⟩ | first | lia | grind [zu_at, zu_atL, zvn]) (by first | with_reducible assumption | exact ⟨by with_reducible assumption, by with_reducible assumption⟩ | first | lia | grind [zu_at, zu_atL, zvn])) (fun o_28 ho_28 => ?_)
  obtain ⟨o_28_0, o_28_1, o_28_2, o_28_3, o_28_4⟩ := o_28
  try dsimp only at ho_28
  obtain ⟨ho_28_0, ho_28_1, ho_28_2, ho_28_3, ho_28_4, ho_28_5, ho_28_6, ho_28_7⟩ := ho_28
  refine zw_some ?_
  first | exact True.intro | ((try dsimp only); (repeat' apply And.intro) <;> first | with_reducible assumption | first | lia | grind [zu_at, zu_atL, zvn])
set_option maxHeartbeats 4000000 in
set_option maxRecDepth 100000 in
theorem sf_X12_readsOp (v0_5 : Int32) (v0_6 : Int32) (v0_7 : Int32) (v0_8 : Int32) (v0_9 : Int32) (f1 : Nat → Int32) (f2 : Nat → Int32) (h_v0_5 : 0 ≤ v0_5 ∧ v0_5 ≤ 1200) (h_v0_6 : 0 ≤ v0_6 ∧ v0_6 ≤ 1200) (h_v0_7 : 0 ≤ v0_7 ∧ v0_7 ≤ 1200) (h_v0_8 : 0 ≤ v0_8 ∧ v0_8 ≤ 4) (h_f1 : (∀ i : Nat, 0 ≤ f1 i ∧ f1 i ≤ 255)) (hx_0 : (∀ k : Nat, k < 71 → f2 k = zTab k)) : zw (fn_X12_readsOp v0_5 v0_6 v0_7 v0_8 v0_9 f1 f2) (fun r => 0 ≤ r.2.1 ∧ r.2.1 ≤ 1200 ∧ 0 ≤ r.2.2.1 ∧ r.2.2.1 ≤ 1200 ∧ 0 ≤ r.2.2.2.1 ∧ r.2.2.2.1 ≤ 4 ∧ 0 ≤ r.1 ∧ r.1 ≤ 5 ∧ v0_6 ≤ r.2.1 ∧ v0_8 ≤ r.2.2.2.1) := by
  unfold fn_X12_readsOp
  refine zw_zb0 (sf_X12_goesWell v0_8 (by first | with_reducible assumption | exact ⟨by with_reducible assumption, by with_reducible assumption⟩ | first | lia | grind [zu_at, zu_atL, zvn])) (fun o_1 ho_1 => ?_)
  obtain ⟨ho_1_0, ho_1_1, ho_1_2, ho_1_3, ho_1_4, ho_1_5⟩ := ho_1
  refine zw_if (fun c1 => ?_) (fun c1 => ?_)
  · refine zw_some ?_
    first | exact True.intro | ((try dsimp only); (repeat' apply And.intro) <;> first | with_reducible assumption | first | lia | grind [zu_at, zu_atL, zvn])
  refine zw_zb0 (sf_X12_here v0_5 v0_6 f1 (by first | with_reducible assumption | exact ⟨by with_reducible assumption, by with_reducible assumption⟩ | first | lia | grind [zu_at, zu_atL, zvn]) (by first | with_reducible assumption | exact ⟨by with_reducible assumption, by with_reducible assumption⟩ | first | lia | grind [zu_at, zu_atL, zvn]) (by first | with_reducible assumption | exact ⟨by with_reducible assumption, by with_reducible assumption⟩ | first | lia | grind [zu_at, zu_atL, zvn])) (fun o_6 ho_6 => ?_)
  obtain ⟨o_6_0, o_6_1⟩ := o_6
  try dsimp only at ho_6
  obtain ⟨ho_6_0, ho_6_1, ho_6_2, ho_6_3, ho_6_4, ho_6_5, ho_6_6⟩ := ho_6
  refine zw_zj (fun _ => 1 ≤ v0_5 ∧ v0_6 ≤ 1199 ∧ 42 ≤ o_6_0 ∧ o_6_0 ≤ 45 ∧ o_6_1 ≤ 1199 ∧ v0_6 < v0_5 ∧ o_6_1 < v0_5) (fun s_10 Hj_10 => ?_) (fun j_10 hj_10 => ?_)
  · obtain ⟨Hj_10_0, Hj_10_1, Hj_10_2, Hj_10_3, Hj_10_4, Hj_10_5, Hj_10_6⟩ := Hj_10
    refine zw_if (fun c2 => ?_) (fun c2 => ?_)
    · refine zw_some ?_
      first | exact True.intro | ((try dsimp only); (repeat' apply And.intro) <;> first | with_reducible assumption | ((try clear hj_10); first | lia | grind [zu_at, zu_atL, zvn]))
    refine zw_if (fun c3 => ?_) (fun c3 => ?_)
    · refine zw_some ?_
      first | exact True.intro | ((try dsimp only); (repeat' apply And.intro) <;> first | with_reducible assumption | ((try clear hj_10); first | lia | grind [zu_at, zu_atL, zvn]))
    refine zw_some ?_
    first | exact True.intro | ((try dsimp only); (repeat' apply And.intro) <;> first | with_reducible assumption | ((try clear hj_10); first | lia | grind [zu_at, zu_atL, zvn]))
  refine zw_if (fun c4 => ?_) (fun c4 => ?_)
  · exact hj_10 _ (by first | exact True.intro | ((try dsimp only); (repeat' apply And.intro) <;> first | with_reducible assumption | ((try clear hj_10); first | lia | grind [zu_at, zu_atL, zvn])))
  refine zw_if (fun c5 => ?_) (fun c5 => ?_)
  · exact hj_10 _ (by first | exact True.intro | ((try dsimp only); (repeat' apply And.intro) <;> first | with_reducible assumption | ((try clear hj_10); first | lia | grind [zu_at, zu_atL, zvn])))
  refine zw_if (fun c6 => ?_) (fun c6 => ?_)
  · exact hj_10 _ (by first | exact True.intro | ((try dsimp only); (repeat' apply And.intro) <;> first | with_reducible assumption | ((try clear hj_10); first | lia | grind [zu_at, zu_atL, zvn])))
  refine zw_zb0 (sf_X12_word v0_5 o_6_1 v0_7 v0_8 v0_9 f1 (by first | with_reducible assumption | exact ⟨by with_reducible assumption, by with_reducible assumption⟩ | ((try clear hj_10); first | lia | grind [zu_at, zu_atL, zvn])) (by first | with_reducible assumption | exact ⟨by with_reducible assumption, by with_reducible assumption⟩ | ((try clear hj_10); first | lia | grind [zu_at, zu_atL, zvn])) (by first | with_reducible assumption | exact ⟨by with_reducible assumption, by with_reducible assumption⟩ | ((try clear hj_10); first | lia | grind [zu_at, zu_atL, zvn])) (by first | with_reducible assumption | exact ⟨by with_reducible assumption, by with_reducible assumption⟩ | ((try clear hj_10); first | lia | grind [zu_at, zu_atL, zvn])) (by first | with_reducible assumption | exact ⟨by with_reducible assumption, by with_reducible assumption⟩ | ((try clear hj_10); first | lia | grind [zu_at, zu_atL, zvn]))) (fun o_16 ho_16 => ?_)
  obtain ⟨o_16_0, o_16_1, o_16_2, o_16_3⟩ := o_16
  try dsimp only at ho_16
  obtain ⟨ho_16_0, ho_16_1, ho_16_2, ho_16_3, ho_16_4, ho_16_5, ho_16_6, ho_16_7⟩ := ho_16
  refine zw_zb0 (sf_X12_goesWell o_16_2 (by first | with_reducible assumption | exact ⟨by with_reducible assumption, by with_reducible assumption⟩ | ((try clear hj_10); first | lia | grind [zu_at, zu_atL, zvn]))) (fun o_20 ho_20 => ?_)
  obtain ⟨ho_20_0, ho_20_1, ho_20_2, ho_20_3, ho_20_4, ho_20_5⟩ := ho_20
  refine zw_zj (fun s_24 => (-1) ≤ s_24 ∧ s_24 ≤ 12) (fun s_24 Hj_24 => ?_) (fun j_24 hj_24 => ?_)
  · obtain ⟨Hj_24_0, Hj_24_1⟩ := Hj_24
    refine zw_zb0 (sf_X12_goesWell o_16_2 (by first | with_reducible assumption | exact ⟨by with_reducible assumption, by with_reducible assumption⟩ | ((try clear hj_10); (try clear hj_24); first | lia | grind [zu_at, zu_atL, zvn]))) (fun o_25 ho_25 => ?_)
    obtain ⟨ho_25_0, ho_25_1, ho_25_2, ho_25_3, ho_25_4, ho_25_5⟩ := ho_25
    refine zw_if (fun c7 => ?_) (fun c7 => ?_)
    · refine zw_if (fun c8 => ?_) (fun c8 => ?_)
      · refine zw_some ?_
        first | exact True.intro | ((try dsimp only); (repeat' apply And.intro) <;> first | with_reducible assumption | ((try clear hj_10); (try clear hj_24); first | lia | grind [zu_at, zu_atL, zvn]))
      refine zw_some ?_
      first | exact True.intro | ((try dsimp only); (repeat' apply And.intro) <;> first | with_reducible assumption | ((try clear hj_10); (try clear hj_24); first | lia | grind [zu_at, zu_atL, zvn]))
    refine zw_if (fun c9 => ?_) (fun c9 => ?_)
    · refine zw_if (fun c10 => ?_) (fun c10 => ?_)
      · refine zw_some ?_
        first | exact True.intro | ((try dsimp only); (repeat' apply And.intro) <;> first | with_reducible assumption | ((try clear hj_10); (try clear hj_24); first | lia | grind [zu_at, zu_atL, zvn]))
      refine zw_some ?_
      first | exact True.intro | ((try dsimp only); (repeat' apply And.intro) <;> first | with_reducible assumption | ((try clear hj_10); (try clear hj_24); first | lia | grind [zu_at, zu_atL, zvn]))
    refine zw_if (fun c11 => ?_) (fun c11 => ?_)
    · refine zw_if (fun c12 => ?_) (fun c12 => ?_)
      · refine zw_some ?_
        first | exact True.intro | ((try dsimp only); (repeat' apply And.intro) <;> first | with_reducible assumption | ((try clear hj_10); (try clear hj_24); first | lia | grind [zu_at, zu_atL, zvn]))
      refine zw_some ?_
      first | exact True.intro | ((try dsimp only); (repeat' apply And.intro) <;> first | with_reducible assumption | ((try clear hj_10); (try clear hj_24); first | lia | grind [zu_at, zu_atL, zvn]))
    refine zw_zb0 (sf_X12_faults 1 o_16_1 o_16_2 o_16_3 (by first | with_reducible assumption | exact ⟨by with_reducible assumption, by with_reducible assumption⟩ | ((try clear hj_10); (try clear hj_24); first | lia | grind [zu_at, zu_atL, zvn])) (by first | with_reducible assumption | exact ⟨by with_reducible assumption, by with_reducible assumption⟩ | ((try clear hj_10); (try clear hj_24); first | lia | grind [zu_at, zu_atL, zvn]))) (fun o_35 ho_35 => ?_)
    obtain ⟨o_35_0, o_35_1⟩ := o_35
    try dsimp only at ho_35
    obtain ⟨ho_35_0, ho_35_1, ho_35_2, ho_35_3⟩ := ho_35
    refine zw_if (fun c13 => ?_) (fun c13 => ?_)
    · refine zw_some ?_
      first | exact True.intro | ((try dsimp only); (repeat' apply And.intro) <;> first | with_reducible assumption | ((try clear hj_10); (try clear hj_24); first | lia | grind [zu_at, zu_atL, zvn]))
    refine zw_some ?_
    first | exact True.intro | ((try dsimp only); (repeat' apply And.intro) <;> first | with_reducible assumption | ((try clear hj_10); (try clear hj_24); first | lia | grind [zu_at, zu_atL, zvn]))
  refine zw_if (fun c14 => ?_) (fun c14 => ?_)
  · exact hj_24 _ (by first | exact True.intro | ((try dsimp only); (repeat' apply And.intro) <;> first | with_reducible assumption | ((try clear hj_10); (try clear hj_24); first | lia | grind [zu_at, zu_atL, zvn])))
  refine zw_zb0 (sf_X12_own o_16_0 o_16_1 f2 f1 (by first | with_reducible assumption | exact ⟨by with_reducible assumption, by with_reducible assumption⟩ | ((try clear hj_10); (try clear hj_24); first | lia | grind [zu_at, zu_atL, zvn])) (by first | with_reducible assumption | exact ⟨by with_reducible assumption, by with_reducible assumption⟩ | ((try clear hj_10); (try clear hj_24); first | lia | grind [zu_at, zu_atL, zvn])) (by first | with_reducible assumption | exact ⟨by with_reducible assumption, by with_reducible assumption⟩ | ((try clear hj_10); (try clear hj_24); first | lia | grind [zu_at, zu_atL, zvn])) (by first | with_reducible assumption | exact ⟨by with_reducible assumption, by with_reducible assumption⟩ | ((try clear hj_10); (try clear hj_24); first | lia | grind [zu_at, zu_atL, zvn]))) (fun o_41 ho_41 => ?_)
  obtain ⟨ho_41_0, ho_41_1⟩ := ho_41
  exact hj_24 _ (by first | exact True.intro | ((try dsimp only); (repeat' apply And.intro) <;> first | with_reducible assumption | ((try clear hj_10); (try clear hj_24); first | lia | grind [zu_at, zu_atL, zvn])))
set_option maxHeartbeats 4000000 in
set_option maxRecDepth 100000 in
theorem sf_X12_readsLet (v0_5 : Int32) (v0_6 : Int32) (v0_7 : Int32) (v0_8 : Int32) (v0_9 : Int32) (v0_11 : Int32) (f1 : Nat → Int32) (f2 : Nat → Int32) (f3 : Nat → Int32) (f4 : Nat → Int32) (f5 : Nat → Int32) (f6 : Nat → Int32) (f7 : Nat → Int32) (f8 : Nat → Int32) (f9 : Nat → Int32) (f10 : Nat → Int32) (f11 : Nat → Int32) (f12 : Nat → Int32) (f13 : Nat → Int64) (f14 : Nat → Int64) (h_v0_5 : 0 ≤ v0_5 ∧ v0_5 ≤ 1200) (h_v0_6 : 0 ≤ v0_6 ∧ v0_6 ≤ 1200) (h_v0_7 : 0 ≤ v0_7 ∧ v0_7 ≤ 1200) (h_v0_8 : 0 ≤ v0_8 ∧ v0_8 ≤ 4) (h_v0_11 : 1 ≤ v0_11 ∧ v0_11 ≤ 1) (h_f1 : (∀ i : Nat, 0 ≤ f1 i ∧ f1 i ≤ 255)) (h_f3 : (∀ i : Nat, 0 ≤ f3 i ∧ f3 i ≤ 4)) (h_f5 : (∀ i : Nat, 0 ≤ f5 i ∧ f5 i ≤ 14)) (h_f8 : (∀ i : Nat, (-1) ≤ f8 i ∧ f8 i ≤ 13)) (h_f9 : (∀ i : Nat, (-1) ≤ f9 i ∧ f9 i ≤ 13)) (h_f10 : (∀ i : Nat, (-1) ≤ f10 i ∧ f10 i ≤ 3)) (h_f12 : (∀ i : Nat, 0 ≤ f12 i ∧ f12 i ≤ 13)) (hr_0 : (f5 v0_11.toNatClampNeg) ≤ 13) (hx_0 : (∀ k : Nat, k < 71 → f2 k = zTab k)) : zw (fn_X12_readsLet v0_5 v0_6 v0_7 v0_8 v0_9 v0_11 f1 f2 f3 f4 f5 f6 f7 f8 f9 f10 f11 f12 f13 f14) (fun r => 0 ≤ r.2.1 ∧ r.2.1 ≤ 1200 ∧ 0 ≤ r.2.2.1 ∧ r.2.2.1 ≤ 1200 ∧ 0 ≤ r.2.2.2.1 ∧ r.2.2.2.1 ≤ 4 ∧ (∀ i : Nat, 0 ≤ r.2.2.2.2.2.1 i ∧ r.2.2.2.2.2.1 i ≤ 14) ∧ (∀ i : Nat, (-1) ≤ r.2.2.2.2.2.2.2.2.1 i ∧ r.2.2.2.2.2.2.2.2.1 i ≤ 13) ∧ (∀ i : Nat, (-1) ≤ r.2.2.2.2.2.2.2.2.2.1 i ∧ r.2.2.2.2.2.2.2.2.2.1 i ≤ 13) ∧ (∀ i : Nat, (-1) ≤ r.2.2.2.2.2.2.2.2.2.2.1 i ∧ r.2.2.2.2.2.2.2.2.2.2.1 i ≤ 3) ∧ (∀ i : Nat, 0 ≤ r.2.2.2.2.2.2.2.2.2.2.2.2.1 i ∧ r.2.2.2.2.2.2.2.2.2.2.2.2.1 i ≤ 13) ∧ v0_6 ≤ r.2.1 ∧ v0_8 ≤ r.2.2.2.1 ∧ (∀ i : Nat, r.2.2.2.2.2.2.2.2.2.2.1 i = f10 i ∨ r.2.2.2.2.2.2.2.2.2.2.1 i = (-1)) ∧ (∀ k : Int32, 0 ≤ k → k < r.2.2.2.2.2.1 v0_11.toNatClampNeg → k < f5 v0_11.toNatClampNeg ∨ r.2.2.2.2.2.2.2.2.2.2.1 (14 + k).toNatClampNeg = (-1)) ∧ r.2.2.2.2.2.1 (0 : Int32).toNatClampNeg = f5 (0 : Int32).toNatClampNeg) := by
  unfold fn_X12_readsLet
  refine zw_zb0 (sf_X12_newName v0_5 v0_6 v0_7 v0_8 v0_9 v0_11 f1 f2 f3 f4 f5 f6 (by first | with_reducible assumption | exact ⟨by with_reducible assumption, by with_reducible assumption⟩ | first | lia | grind [zu_at, zu_atL, zvn]) (by first | with_reducible assumption | exact ⟨by with_reducible assumption, by with_reducible assumption⟩ | first | lia | grind [zu_at, zu_atL, zvn]) (by first | with_reducible assumption | exact ⟨by with_reducible assumption, by with_reducible assumption⟩ | first | lia | grind [zu_at, zu_atL, zvn]) (by first | with_reducible assumption | exact ⟨by with_reducible assumption, by with_reducible assumption⟩ | first | lia | grind [zu_at, zu_atL, zvn]) (by first | with_reducible assumption | exact ⟨by with_reducible assumption, by with_reducible assumption⟩ | first | lia | grind [zu_at, zu_atL, zvn]) (by first | with_reducible assumption | exact ⟨by with_reducible assumption, by with_reducible assumption⟩ | first | lia | grind [zu_at, zu_atL, zvn]) (by first | with_reducible assumption | exact ⟨by with_reducible assumption, by with_reducible assumption⟩ | first | lia | grind [zu_at, zu_atL, zvn]) (by first | with_reducible assumption | exact ⟨by with_reducible assumption, by with_reducible assumption⟩ | first | lia | grind [zu_at, zu_atL, zvn]) (by first | with_reducible assumption | exact ⟨by with_reducible assumption, by with_reducible assumption⟩ | first | lia | grind [zu_at, zu_atL, zvn])) (fun o_1 ho_1 => ?_)
  obtain ⟨o_1_0, o_1_1, o_1_2, o_1_3, o_1_4⟩ := o_1
  try dsimp only at ho_1
  obtain ⟨ho_1_0, ho_1_1, ho_1_2, ho_1_3, ho_1_4, ho_1_5, ho_1_6, ho_1_7⟩ := ho_1
  refine zw_zb0 (sf_X12_mark 61 v0_5 o_1_1 o_1_3 o_1_4 f1 (by first | with_reducible assumption | exact ⟨by with_reducible assumption, by with_reducible assumption⟩ | first | lia | grind [zu_at, zu_atL, zvn]) (by first | with_reducible assumption | exact ⟨by with_reducible assumption, by with_reducible assumption⟩ | first | lia | grind [zu_at, zu_atL, zvn]) (by first | with_reducible assumption | exact ⟨by with_reducible assumption, by with_reducible assumption⟩ | first | lia | grind [zu_at, zu_atL, zvn]) (by first | with_reducible assumption | exact ⟨by with_reducible assumption, by with_reducible assumption⟩ | first | lia | grind [zu_at, zu_atL, zvn]) (by first | with_reducible assumption | exact ⟨by with_reducible assumption, by with_reducible assumption⟩ | first | lia | grind [zu_at, zu_atL, zvn])) (fun o_5 ho_5 => ?_)
  obtain ⟨o_5_0, o_5_1, o_5_2⟩ := o_5
  try dsimp only at ho_5
  obtain ⟨ho_5_0, ho_5_1, ho_5_2, ho_5_3, ho_5_4, ho_5_5⟩ := ho_5
  refine zw_zb0 (sf_X12_readsWhat v0_5 o_5_0 o_1_2 o_5_1 o_5_2 v0_11 f1 f2 f5 f6 (by first | with_reducible assumption | exact ⟨by with_reducible assumption, by with_reducible assumption⟩ | first | lia | grind [zu_at, zu_atL, zvn]) (by first | with_reducible assumption | exact ⟨by with_reducible assumption, by with_reducible assumption⟩ | first | lia | grind [zu_at, zu_atL, zvn]) (by first | with_reducible assumption | exact ⟨by with_reducible assumption, by with_reducible assumption⟩ | first | lia | grind [zu_at, zu_atL, zvn]) (by first | with_reducible assumption | exact ⟨by with_reducible assumption, by with_reducible assumption⟩ | first | lia | grind [zu_at, zu_atL, zvn]) (by first | with_reducible assumption | exact ⟨by with_reducible assumption, by with_reducible assumption⟩ | first | lia | grind [zu_at, zu_atL, zvn]) (by first | with_reducible assumption | exact ⟨by with_reducible assumption, by with_reducible assumption⟩ | first | lia | grind [zu_at, zu_atL, zvn]) (by first | with_reducible assumption | exact ⟨by with_reducible assumption, by with_reducible assumption⟩ | first | lia | grind [zu_at, zu_atL, zvn]) (by first | with_reducible assumption | exact ⟨by with_reducible assumption, by with_reducible assumption⟩ | first | lia | grind [zu_at, zu_atL, zvn])) (fun o_9 ho_9 => ?_)
  obtain ⟨o_9_0, o_9_1, o_9_2, o_9_3, o_9_4, o_9_5⟩ := o_9
  try dsimp only at ho_9
  obtain ⟨ho_9_0, ho_9_1, ho_9_2, ho_9_3, ho_9_4, ho_9_5, ho_9_6, ho_9_7, ho_9_8, ho_9_9, ho_9_10⟩ := ho_9
  refine zw_zb0 (sf_X12_readsOp v0_5 o_9_2 o_9_3 o_9_4 o_9_5 f1 f2 (by first | with_reducible assumption | exact ⟨by with_reducible assumption, by with_reducible assumption⟩ | first | lia | grind [zu_at, zu_atL, zvn]) (by first | with_reducible assumption | exact ⟨by with_reducible assumption, by with_reducible assumption⟩ | first | lia | grind [zu_at, zu_atL, zvn]) (by first | with_reducible assumption | exact ⟨by with_reducible assumption, by with_reducible assumption⟩ | first | lia | grind [zu_at, zu_atL, zvn]) (by first | with_reducible assumption | exact ⟨by with_reducible assumption, by with_reducible assumption⟩ | first | lia | grind [zu_at, zu_atL, zvn]) (by first | with_reducible assumption | exact ⟨by with_reducible assumption, by with_reducible assumption⟩ | first | lia | grind [zu_at, zu_atL, zvn]) (by first | with_reducible assumption | exact ⟨by with_reducible assumption, by with_reducible assumption⟩ | first | lia | grind [zu_at, zu_atL, zvn])) (fun o_13 ho_13 => ?_)
  obtain ⟨o_13_0, o_13_1, o_13_2, o_13_3, o_13_4⟩ := o_13
  try dsimp only at ho_13
  obtain ⟨ho_13_0, ho_13_1, ho_13_2, ho_13_3, ho_13_4, ho_13_5, ho_13_6, ho_13_7, ho_13_8, ho_13_9⟩ := ho_13
  refine zw_zb0 (sf_X12_readsWhat v0_5 o_13_1 o_13_2 o_13_3 o_13_4 v0_11 f1 f2 f5 f6 (by first | with_reducible assumption | exact ⟨by with_reducible assumption, by with_reducible assumption⟩ | first | lia | grind [zu_at, zu_atL, zvn]) (by first | with_reducible assumption | exact ⟨by with_reducible assumption, by with_reducible assumption⟩ | first | lia | grind [zu_at, zu_atL, zvn]) (by first | with_reducible assumption | exact ⟨by with_reducible assumption, by with_reducible assumption⟩ | first | lia | grind [zu_at, zu_atL, zvn]) (by first | with_reducible assumption | exact ⟨by with_reducible assumption, by with_reducible assumption⟩ | first | lia | grind [zu_at, zu_atL, zvn]) (by first | with_reducible assumption | exact ⟨by with_reducible assumption, by with_reducible assumption⟩ | first | lia | grind [zu_at, zu_atL, zvn]) (by first | with_reducible assumption | exact ⟨by with_reducible assumption, by with_reducible assumption⟩ | first | lia | grind [zu_at, zu_atL, zvn]) (by first | with_reducible assumption | exact ⟨by with_reducible assumption, by with_reducible assumption⟩ | first | lia | grind [zu_at, zu_atL, zvn]) (by first | with_reducible assumption | exact ⟨by with_reducible assumption, by with_reducible assumption⟩ | first | lia | grind [zu_at, zu_atL, zvn])) (fun o_17 ho_17 => ?_)
  obtain ⟨o_17_0, o_17_1, o_17_2, o_17_3, o_17_4, o_17_5⟩ := o_17
  try dsimp only at ho_17
  obtain ⟨ho_17_0, ho_17_1, ho_17_2, ho_17_3, ho_17_4, ho_17_5, ho_17_6, ho_17_7, ho_17_8, ho_17_9, ho_17_10⟩ := ho_17
  refine zw_zb0 (sf_X12_goesWell o_17_4 (by first | with_reducible assumption | exact ⟨by with_reducible assumption, by with_reducible assumption⟩ | first | lia | grind [zu_at, zu_atL, zvn])) (fun o_21 ho_21 => ?_)
  obtain ⟨ho_21_0, ho_21_1, ho_21_2, ho_21_3, ho_21_4, ho_21_5⟩ := ho_21
  refine zw_if (fun c1 => ?_) (fun c1 => ?_)
  · refine zw_some ?_
    first | exact True.intro | ((try dsimp only); (repeat' apply And.intro) <;> first | with_reducible assumption | with_reducible exact fun _ => Or.inl rfl | with_reducible exact fun _ _ _ => rfl | with_reducible exact fun _ _ h => Or.inl h | with_reducible rfl | ((with_reducible refine zU7 ?_ ⟨?_, ?_⟩) <;> first | with_reducible assumption | lia) | ((with_reducible refine zU1 ?_) <;> grind [z32_in]) | with_reducible exact zU1m | ((with_reducible refine zU4 ?_) <;> lia) | ((with_reducible refine zU2 (h_f3 _) ?_ ?_) <;> first | lia | grind [z32_in]) | ((with_reducible refine zU3 ?_) <;> lia) | ((with_reducible refine zU5 (h_f5 _) ?_) <;> with_reducible assumption) | ((with_reducible refine zU6 ?_) <;> lia) | ((with_reducible refine zU8 ⟨?_, ?_⟩) <;> first | lia | grind) | ((with_reducible refine zO1 ?_) <;> with_reducible assumption) | ((with_reducible refine zO2 ?_) <;> with_reducible assumption) | first | lia | grind [zu_at, zu_atL, zvn])
  refine zw_zb0 (sf_X12_newNumber o_1_0 o_13_0 v0_11 f5 f6 f7 f8 f9 f10 f11 f12 (by first | with_reducible assumption | exact ⟨by with_reducible assumption, by with_reducible assumption⟩ | first | lia | grind [zu_at, zu_atL, zvn]) (by first | with_reducible assumption | exact ⟨by with_reducible assumption, by with_reducible assumption⟩ | first | lia | grind [zu_at, zu_atL, zvn]) (by first | with_reducible assumption | exact ⟨by with_reducible assumption, by with_reducible assumption⟩ | first | lia | grind [zu_at, zu_atL, zvn]) (by first | with_reducible assumption | exact ⟨by with_reducible assumption, by with_reducible assumption⟩ | first | lia | grind [zu_at, zu_atL, zvn]) (by first | with_reducible assumption | exact ⟨by with_reducible assumption, by with_reducible assumption⟩ | first | lia | grind [zu_at, zu_atL, zvn]) (by first | with_reducible assumption | exact ⟨by with_reducible assumption, by with_reducible assumption⟩ | first | lia | grind [zu_at, zu_atL, zvn]) (by first | with_reducible assumption | exact ⟨by with_reducible assumption, by with_reducible assumption⟩ | first | lia | grind [zu_at, zu_atL, zvn])) (fun o_26 ho_26 => ?_)
  obtain ⟨o_26_0, o_26_1, o_26_2, o_26_3, o_26_4, o_26_5, o_26_6⟩ := o_26
  try dsimp only at ho_26
  obtain ⟨ho_26_0, ho_26_1, ho_26_2, ho_26_3, ho_26_4, ho_26_5⟩ := ho_26
  refine zw_zg32 2 (by decide) (by (try dsimp only); first | lia | grind [zu_at, zu_atL, zvn]) ?_
  refine zw_zb0 (sf_X12_n (f5 v0_11.toNatClampNeg) v0_11 (by first | with_reducible assumption | exact ⟨by with_reducible assumption, by with_reducible assumption⟩ | first | lia | grind [zu_at, zu_atL, zvn]) (by first | with_reducible assumption | exact ⟨by with_reducible assumption, by with_reducible assumption⟩ | first | lia | grind [zu_at, zu_atL, zvn])) (fun o_31 ho_31 => ?_)
  obtain ⟨ho_31_0, ho_31_1, ho_31_2, ho_31_3⟩ := ho_31
  refine zw_zg32 28 (by decide) (by (try dsimp only); first | lia | grind [zu_at, zu_atL, zvn]) ?_
  refine zw_some ?_
  first | exact True.intro | ((try dsimp only); (repeat' apply And.intro) <;> first | with_reducible assumption | with_reducible exact fun _ => Or.inl rfl | with_reducible exact fun _ _ _ => rfl | with_reducible exact fun _ _ h => Or.inl h | with_reducible rfl | ((with_reducible refine zU7 ?_ ⟨?_, ?_⟩) <;> first | with_reducible assumption | lia) | ((with_reducible refine zU1 ?_) <;> grind [z32_in]) | with_reducible exact zU1m | ((with_reducible refine zU4 ?_) <;> lia) | ((with_reducible refine zU2 (h_f3 _) ?_ ?_) <;> first | lia | grind [z32_in]) | ((with_reducible refine zU3 ?_) <;> lia) | ((with_reducible refine zU5 (h_f5 _) ?_) <;> with_reducible assumption) | ((with_reducible refine zU6 ?_) <;> lia) | ((with_reducible refine zU8 ⟨?_, ?_⟩) <;> first | lia | grind) | ((with_reducible refine zO1 ?_) <;> with_reducible assumption) | ((with_reducible refine zO2 ?_) <;> with_reducible assumption) | first | lia | grind [zu_at, zu_atL, zvn])
set_option maxHeartbeats 4000000 in
set_option maxRecDepth 100000 in
theorem sf_X12_readsFixed (v0_5 : Int32) (v0_6 : Int32) (v0_7 : Int32) (v0_8 : Int32) (v0_9 : Int32) (v0_11 : Int32) (f1 : Nat → Int32) (f2 : Nat → Int32) (f3 : Nat → Int32) (f4 : Nat → Int32) (f5 : Nat → Int32) (f6 : Nat → Int32) (f7 : Nat → Int32) (h_v0_5 : 0 ≤ v0_5 ∧ v0_5 ≤ 1200) (h_v0_6 : 0 ≤ v0_6 ∧ v0_6 ≤ 1200) (h_v0_7 : 0 ≤ v0_7 ∧ v0_7 ≤ 1200) (h_v0_8 : 0 ≤ v0_8 ∧ v0_8 ≤ 4) (h_v0_11 : 1 ≤ v0_11 ∧ v0_11 ≤ 1) (h_f1 : (∀ i : Nat, 0 ≤ f1 i ∧ f1 i ≤ 255)) (h_f3 : (∀ i : Nat, 0 ≤ f3 i ∧ f3 i ≤ 14)) (h_f5 : (∀ i : Nat, 0 ≤ f5 i ∧ f5 i ≤ 4)) (h_f7 : (∀ i : Nat, (-1) ≤ f7 i ∧ f7 i ≤ 3)) (hx_0 : (∀ k : Nat, k < 71 → f2 k = zTab k)) : zw (fn_X12_readsFixed v0_5 v0_6 v0_7 v0_8 v0_9 v0_11 f1 f2 f3 f4 f5 f6 f7) (fun r => 0 ≤ r.1 ∧ r.1 ≤ 1200 ∧ 0 ≤ r.2.1 ∧ r.2.1 ≤ 1200 ∧ 0 ≤ r.2.2.1 ∧ r.2.2.1 ≤ 4 ∧ (∀ i : Nat, (-1) ≤ r.2.2.2.2 i ∧ r.2.2.2.2 i ≤ 3) ∧ v0_6 ≤ r.1 ∧ v0_8 ≤ r.2.2.1 ∧ (∀ i : Nat, r.2.2.2.2 i = f7 i ∨ 0 ≤ r.2.2.2.2 i ∧ r.2.2.2.2 i < f5 v0_11.toNatClampNeg)) := by
  unfold fn_X12_readsFixed
  refine zw_zb0 (sf_X12_toldNumber v0_5 v0_6 v0_7 v0_8 v0_9 v0_11 f1 f2 f3 f4 (by first | with_reducible assumption | exact ⟨by with_reducible assumption, by with_reducible assumption⟩ | first | lia | grind [zu_at, zu_atL, zvn]) (by first | with_reducible assumption | exact ⟨by with_reducible assumption, by with_reducible assumption⟩ | first | lia | grind [zu_at, zu_atL, zvn]) (by first | with_reducible assumption | exact ⟨by with_reducible assumption, by with_reducible assumption⟩ | first | lia | grind [zu_at, zu_atL, zvn]) (by first | with_reducible assumption | exact ⟨by with_reducible assumption, by with_reducible assumption⟩ | first | lia | grind [zu_at, zu_atL, zvn]) (by first | with_reducible assumption | exact ⟨by with_reducible assumption, by with_reducible assumption⟩ | first | lia | grind [zu_at, zu_atL, zvn]) (by first | with_reducible assumption | exact ⟨by with_reducible assumption, by with_reducible assumption⟩ | first | lia | grind [zu_at, zu_atL, zvn]) (by first | with_reducible assumption | exact ⟨by with_reducible assumption, by with_reducible assumption⟩ | first | lia | grind [zu_at, zu_atL, zvn]) (by first | with_reducible assumption | exact ⟨by with_reducible assumption, by with_reducible assumption⟩ | first | lia | grind [zu_at, zu_atL, zvn])) (fun o_1 ho_1 => ?_)
  obtain ⟨o_1_0, o_1_1, o_1_2, o_1_3, o_1_4⟩ := o_1
  try dsimp only at ho_1
  obtain ⟨ho_1_0, ho_1_1, ho_1_2, ho_1_3, ho_1_4, ho_1_5, ho_1_6, ho_1_7, ho_1_8, ho_1_9⟩ := ho_1
  refine zw_zb0 (sf_X12_name v0_5 o_1_1 o_1_2 o_1_3 o_1_4 f1 f2 (by first | with_reducible assumption | exact ⟨by with_reducible assumption, by with_reducible assumption⟩ | first | lia | grind [zu_at, zu_atL, zvn]) (by first | with_reducible assumption | exact ⟨by with_reducible assumption, by with_reducible assumption⟩ | first | lia | grind [zu_at, zu_atL, zvn]) (by first | with_reducible assumption | exact ⟨by with_reducible assumption, by with_reducible assumption⟩ | first | lia | grind [zu_at, zu_atL, zvn]) (by first | with_reducible assumption | exact ⟨by with_reducible assumption, by with_reducible assumption⟩ | first | lia | grind [zu_at, zu_atL, zvn]) (by first | with_reducible assumption | exact ⟨by with_reducible assumption, by with_reducible assumption⟩ | first | lia | grind [zu_at, zu_atL, zvn]) (by first | with_reducible assumption | exact ⟨by with_reducible assumption, by with_reducible assumption⟩ | first | lia | grind [zu_at, zu_atL, zvn])) (fun o_5 ho_5 => ?_)
  obtain ⟨o_5_0, o_5_1, o_5_2, o_5_3, o_5_4⟩ := o_5
  try dsimp only at ho_5
  obtain ⟨ho_5_0, ho_5_1, ho_5_2, ho_5_3, ho_5_4, ho_5_5, ho_5_6, ho_5_7⟩ := ho_5
  refine zw_zb0 (sf_X12_goesWell o_5_3 (by first | with_reducible assumption | exact ⟨by with_reducible assumption, by with_reducible assumption⟩ | first | lia | grind [zu_at, zu_atL, zvn])) (fun o_9 ho_9 => ?_)
  obtain ⟨ho_9_0, ho_9_1, ho_9_2, ho_9_3, ho_9_4, ho_9_5⟩ := ho_9
  refine zw_zj (fun s_13 => (o_5_3 = 0 → s_13 = (-1) ∨ 0 ≤ s_13 ∧ s_13 < f5 v0_11.toNatClampNeg) ∧ (-1) ≤ s_13 ∧ s_13 ≤ 3 ∧ s_13 ≤ o_9 + 2 ∧ v0_8 ≤ s_13 + 4 ∧ o_1_3 ≤ s_13 + 4 ∧ o_5_3 ≤ s_13 + 4) (fun s_13 Hj_13 => ?_) (fun j_13 hj_13 => ?_)
  · obtain ⟨Hj_13_0, Hj_13_1, Hj_13_2, Hj_13_3, Hj_13_4, Hj_13_5, Hj_13_6⟩ := Hj_13
    refine zw_zb0 (sf_X12_goesWell o_5_3 (by first | with_reducible assumption | exact ⟨by with_reducible assumption, by with_reducible assumption⟩ | ((try clear hj_13); first | lia | grind [zu_at, zu_atL, zvn]))) (fun o_14 ho_14 => ?_)
    obtain ⟨ho_14_0, ho_14_1, ho_14_2, ho_14_3, ho_14_4, ho_14_5⟩ := ho_14
    refine zw_zj (fun s_18 => (s_18.1 = 0 → 0 ≤ s_13 ∧ s_13 < f5 v0_11.toNatClampNeg) ∧ 0 ≤ s_18.1 ∧ s_18.1 ≤ 4 ∧ v0_8 ≤ s_18.1 ∧ o_1_3 ≤ s_18.1 ∧ o_5_3 ≤ s_18.1) (fun s_18 Hj_18 => ?_) (fun j_18 hj_18 => ?_)
    · obtain ⟨s_18_0, s_18_1⟩ := s_18
      try dsimp only at Hj_18
      obtain ⟨Hj_18_0, Hj_18_1, Hj_18_2, Hj_18_3, Hj_18_4, Hj_18_5⟩ := Hj_18
      refine zw_zb0 (sf_X12_goesWell s_18_0 (by first | with_reducible assumption | exact ⟨by with_reducible assumption, by with_reducible assumption⟩ | ((try clear hj_13); (try clear hj_18); first | lia | grind [zu_at, zu_atL, zvn]))) (fun o_19 ho_19 => ?_)
      obtain ⟨ho_19_0, ho_19_1, ho_19_2, ho_19_3, ho_19_4, ho_19_5⟩ := ho_19
      refine zw_if (fun c1 => ?_) (fun c1 => ?_)
      · refine zw_some ?_
        first | exact True.intro | ((try dsimp only); (repeat' apply And.intro) <;> first | with_reducible assumption | with_reducible exact fun _ => Or.inl rfl | with_reducible exact fun _ _ _ => rfl | with_reducible exact fun _ _ h => Or.inl h | with_reducible rfl | ((with_reducible refine zU7 ?_ ⟨?_, ?_⟩) <;> first | with_reducible assumption | lia) | ((with_reducible refine zU1 ?_) <;> grind [z32_in]) | with_reducible exact zU1m | ((with_reducible refine zU4 ?_) <;> ((try clear hj_13); (try clear hj_18); lia)) | ((with_reducible refine zU2 (h_f3 _) ?_ ?_) <;> first | lia | grind [z32_in]) | ((with_reducible refine zU3 ?_) <;> ((try clear hj_13); (try clear hj_18); lia)) | ((with_reducible refine zU5 (h_f5 _) ?_) <;> with_reducible assumption) | ((with_reducible refine zU6 ?_) <;> ((try clear hj_13); (try clear hj_18); lia)) | ((with_reducible refine zU8 ⟨?_, ?_⟩) <;> ((try clear hj_13); (try clear hj_18); lia)) | ((with_reducible refine zO1 ?_) <;> with_reducible assumption) | ((with_reducible refine zO2 ?_) <;> with_reducible assumption) | ((with_reducible refine zU8 ⟨?_, ?_⟩) <;> grind) | ((try clear hj_13); (try clear hj_18); first | lia | grind [zu_at, zu_atL, zvn]))
      refine zw_zb0 (sf_X12_n o_1_0 v0_11 (by first | with_reducible assumption | exact ⟨by with_reducible assumption, by with_reducible assumption⟩ | ((try clear hj_13); (try clear hj_18); first | lia | grind [zu_at, zu_atL, zvn])) (by first | with_reducible assumption | exact ⟨by with_reducible assumption, by with_reducible assumption⟩ | ((try clear hj_13); (try clear hj_18); first | lia | grind [zu_at, zu_atL, zvn]))) (fun o_24 ho_24 => ?_)
      obtain ⟨ho_24_0, ho_24_1, ho_24_2, ho_24_3⟩ := ho_24
      refine zw_zg32 28 (by decide) (by (try dsimp only); ((try clear hj_13); (try clear hj_18); first | lia | grind [zu_at, zu_atL, zvn])) ?_
      refine zw_some ?_
      first | exact True.intro | ((try dsimp only); (repeat' apply And.intro) <;> first | with_reducible assumption | with_reducible exact fun _ => Or.inl rfl | with_reducible exact fun _ _ _ => rfl | with_reducible exact fun _ _ h => Or.inl h | with_reducible rfl | ((with_reducible refine zU7 ?_ ⟨?_, ?_⟩) <;> first | with_reducible assumption | lia) | ((with_reducible refine zU1 ?_) <;> grind [z32_in]) | with_reducible exact zU1m | ((with_reducible refine zU4 ?_) <;> ((try clear hj_13); (try clear hj_18); lia)) | ((with_reducible refine zU2 (h_f3 _) ?_ ?_) <;> first | lia | grind [z32_in]) | ((with_reducible refine zU3 ?_) <;> ((try clear hj_13); (try clear hj_18); lia)) | ((with_reducible refine zU5 (h_f5 _) ?_) <;> with_reducible assumption) | ((with_reducible refine zU6 ?_) <;> ((try clear hj_13); (try clear hj_18); lia)) | ((with_reducible refine zU8 ⟨?_, ?_⟩) <;> ((try clear hj_13); (try clear hj_18); lia)) | ((with_reducible refine zO1 ?_) <;> with_reducible assumption) | ((with_reducible refine zO2 ?_) <;> with_reducible assumption) | ((with_reducible refine zU8 ⟨?_, ?_⟩) <;> grind) | ((try clear hj_13); (try clear hj_18); first | lia | grind [zu_at, zu_atL, zvn]))
    refine zw_if (fun c2 => ?_) (fun c2 => ?_)
    · exact hj_18 _ (by first | exact True.intro | ((try dsimp only); (repeat' apply And.intro) <;> first | with_reducible assumption | with_reducible exact fun _ => Or.inl rfl | with_reducible exact fun _ _ _ => rfl | with_reducible exact fun _ _ h => Or.inl h | with_reducible rfl | ((with_reducible refine zU7 ?_ ⟨?_, ?_⟩) <;> first | with_reducible assumption | lia) | ((with_reducible refine zU1 ?_) <;> grind [z32_in]) | with_reducible exact zU1m | ((with_reducible refine zU4 ?_) <;> ((try clear hj_13); (try clear hj_18); lia)) | ((with_reducible refine zU2 (h_f3 _) ?_ ?_) <;> first | lia | grind [z32_in]) | ((with_reducible refine zU3 ?_) <;> ((try clear hj_13); (try clear hj_18); lia)) | ((with_reducible refine zU5 (h_f5 _) ?_) <;> with_reducible assumption) | ((with_reducible refine zU6 ?_) <;> ((try clear hj_13); (try clear hj_18); lia)) | ((with_reducible refine zU8 ⟨?_, ?_⟩) <;> ((try clear hj_13); (try clear hj_18); lia)) | ((with_reducible refine zO1 ?_) <;> with_reducible assumption) | ((with_reducible refine zO2 ?_) <;> with_reducible assumption) | ((with_reducible refine zU8 ⟨?_, ?_⟩) <;> grind) | ((try clear hj_13); (try clear hj_18); first | lia | grind [zu_at, zu_atL, zvn])))
    refine zw_if (fun c3 => ?_) (fun c3 => ?_)
    · refine zw_zb0 (sf_X12_faults 3 o_5_2 o_5_3 o_5_4 (by first | with_reducible assumption | exact ⟨by with_reducible assumption, by with_reducible assumption⟩ | ((try clear hj_13); (try clear hj_18); first | lia | grind [zu_at, zu_atL, zvn])) (by first | with_reducible assumption | exact ⟨by with_reducible assumption, by with_reducible assumption⟩ | ((try clear hj_13); (try clear hj_18); first | lia | grind [zu_at, zu_atL, zvn]))) (fun o_31 ho_31 => ?_)
      obtain ⟨o_31_0, o_31_1⟩ := o_31
      try dsimp only at ho_31
      obtain ⟨ho_31_0, ho_31_1, ho_31_2, ho_31_3⟩ := ho_31
      exact hj_18 _ (by first | exact True.intro | ((try dsimp only); (repeat' apply And.intro) <;> first | with_reducible assumption | with_reducible exact fun _ => Or.inl rfl | with_reducible exact fun _ _ _ => rfl | with_reducible exact fun _ _ h => Or.inl h | with_reducible rfl | ((with_reducible refine zU7 ?_ ⟨?_, ?_⟩) <;> first | with_reducible assumption | lia) | ((with_reducible refine zU1 ?_) <;> grind [z32_in]) | with_reducible exact zU1m | ((with_reducible refine zU4 ?_) <;> ((try clear hj_13); (try clear hj_18); lia)) | ((with_reducible refine zU2 (h_f3 _) ?_ ?_) <;> first | lia | grind [z32_in]) | ((with_reducible refine zU3 ?_) <;> ((try clear hj_13); (try clear hj_18); lia)) | ((with_reducible refine zU5 (h_f5 _) ?_) <;> with_reducible assumption) | ((with_reducible refine zU6 ?_) <;> ((try clear hj_13); (try clear hj_18); lia)) | ((with_reducible refine zU8 ⟨?_, ?_⟩) <;> ((try clear hj_13); (try clear hj_18); lia)) | ((with_reducible refine zO1 ?_) <;> with_reducible assumption) | ((with_reducible refine zO2 ?_) <;> with_reducible assumption) | ((with_reducible refine zU8 ⟨?_, ?_⟩) <;> grind) | ((try clear hj_13); (try clear hj_18); first | lia | grind [zu_at, zu_atL, zvn])))
    exact hj_18 _ (by first | exact True.intro | ((try dsimp only); (repeat' apply And.intro) <;> first | with_reducible assumption | with_reducible exact fun _ => Or.inl rfl | with_reducible exact fun _ _ _ => rfl | with_reducible exact fun _ _ h => Or.inl h | with_reducible rfl | ((with_reducible refine zU7 ?_ ⟨?_, ?_⟩) <;> first | with_reducible assumption | lia) | ((with_reducible refine zU1 ?_) <;> grind [z32_in]) | with_reducible exact zU1m | ((with_reducible refine zU4 ?_) <;> ((try clear hj_13); (try clear hj_18); lia)) | ((with_reducible refine zU2 (h_f3 _) ?_ ?_) <;> first | lia | grind [z32_in]) | ((with_reducible refine zU3 ?_) <;> ((try clear hj_13); (try clear hj_18); lia)) | ((with_reducible refine zU5 (h_f5 _) ?_) <;> with_reducible assumption) | ((with_reducible refine zU6 ?_) <;> ((try clear hj_13); (try clear hj_18); lia)) | ((with_reducible refine zU8 ⟨?_, ?_⟩) <;> ((try clear hj_13); (try clear hj_18); lia)) | ((with_reducible refine zO1 ?_) <;> with_reducible assumption) | ((with_reducible refine zO2 ?_) <;> with_reducible assumption) | ((with_reducible refine zU8 ⟨?_, ?_⟩) <;> grind) | ((try clear hj_13); (try clear hj_18); first | lia | grind [zu_at, zu_atL, zvn])))
  refine zw_if (fun c4 => ?_) (fun c4 => ?_)
  · exact hj_13 _ (by first | exact True.intro | ((try dsimp only); (repeat' apply And.intro) <;> first | with_reducible assumption | with_reducible exact fun _ => Or.inl rfl | with_reducible exact fun _ _ _ => rfl | with_reducible exact fun _ _ h => Or.inl h | with_reducible rfl | ((with_reducible refine zU7 ?_ ⟨?_, ?_⟩) <;> first | with_reducible assumption | lia) | ((with_reducible refine zU1 ?_) <;> grind [z32_in]) | with_reducible exact zU1m | ((with_reducible refine zU4 ?_) <;> ((try clear hj_13); (try clear hj_18); lia)) | ((with_reducible refine zU2 (h_f3 _) ?_ ?_) <;> first | lia | grind [z32_in]) | ((with_reducible refine zU3 ?_) <;> ((try clear hj_13); (try clear hj_18); lia)) | ((with_reducible refine zU5 (h_f5 _) ?_) <;> with_reducible assumption) | ((with_reducible refine zU6 ?_) <;> ((try clear hj_13); (try clear hj_18); lia)) | ((with_reducible refine zU8 ⟨?_, ?_⟩) <;> ((try clear hj_13); (try clear hj_18); lia)) | ((with_reducible refine zO1 ?_) <;> with_reducible assumption) | ((with_reducible refine zO2 ?_) <;> with_reducible assumption) | ((with_reducible refine zU8 ⟨?_, ?_⟩) <;> grind) | ((try clear hj_13); (try clear hj_18); first | lia | grind [zu_at, zu_atL, zvn])))
  refine zw_zb0 (sf_X12_formatNamed o_5_0 v0_11 f5 f6 (by first | with_reducible assumption | exact ⟨by with_reducible assumption, by with_reducible assumption⟩ | ((try clear hj_13); (try clear hj_18); first | lia | grind [zu_at, zu_atL, zvn])) (by first | with_reducible assumption | exact ⟨by with_reducible assumption, by with_reducible assumption⟩ | ((try clear hj_13); (try clear hj_18); first | lia | grind [zu_at, zu_atL, zvn]))) (fun o_36 ho_36 => ?_)
  obtain ⟨ho_36_0, ho_36_1, ho_36_2, ho_36_3, ho_36_4⟩ := ho_36
  exact hj_13 _ (by first | exact True.intro | ((try dsimp only); (repeat' apply And.intro) <;> first | with_reducible assumption | with_reducible exact fun _ => Or.inl rfl | with_reducible exact fun _ _ _ => rfl | with_reducible exact fun _ _ h => Or.inl h | with_reducible rfl | ((with_reducible refine zU7 ?_ ⟨?_, ?_⟩) <;> first | with_reducible assumption | lia) | ((with_reducible refine zU1 ?_) <;> grind [z32_in]) | with_reducible exact zU1m | ((with_reducible refine zU4 ?_) <;> ((try clear hj_13); (try clear hj_18); lia)) | ((with_reducible refine zU2 (h_f3 _) ?_ ?_) <;> first | lia | grind [z32_in]) | ((with_reducible refine zU3 ?_) <;> ((try clear hj_13); (try clear hj_18); lia)) | ((with_reducible refine zU5 (h_f5 _) ?_) <;> with_reducible assumption) | ((with_reducible refine zU6 ?_) <;> ((try clear hj_13); (try clear hj_18); lia)) | ((with_reducible refine zU8 ⟨?_, ?_⟩) <;> ((try clear hj_13); (try clear hj_18); lia)) | ((with_reducible refine zO1 ?_) <;> with_reducible assumption) | ((with_reducible refine zO2 ?_) <;> with_reducible assumption) | ((with_reducible refine zU8 ⟨?_, ?_⟩) <;> grind) | ((try clear hj_13); (try clear hj_18); first | lia | grind [zu_at, zu_atL, zvn])))
set_option maxHeartbeats 4000000 in
set_option maxRecDepth 100000 in
theorem sf_X12_readsGroup (v0_5 : Int32) (v0_6 : Int32) (v0_7 : Int32) (v0_8 : Int32) (v0_9 : Int32) (v0_11 : Int32) (f1 : Nat → Int32) (f2 : Nat → Int32) (f3 : Nat → Int32) (f4 : Nat → Int32) (f5 : Nat → Int32) (h_v0_5 : 0 ≤ v0_5 ∧ v0_5 ≤ 1200) (h_v0_6 : 0 ≤ v0_6 ∧ v0_6 ≤ 1200) (h_v0_7 : 0 ≤ v0_7 ∧ v0_7 ≤ 1200) (h_v0_8 : 0 ≤ v0_8 ∧ v0_8 ≤ 4) (h_v0_11 : 1 ≤ v0_11 ∧ v0_11 ≤ 1) (h_f1 : (∀ i : Nat, 0 ≤ f1 i ∧ f1 i ≤ 255)) (h_f3 : (∀ i : Nat, 0 ≤ f3 i ∧ f3 i ≤ 14)) (h_f5 : (∀ i : Nat, 0 ≤ f5 i ∧ f5 i ≤ 13)) (hx_0 : (∀ k : Nat, k < 71 → f2 k = zTab k)) : zw (fn_X12_readsGroup v0_5 v0_6 v0_7 v0_8 v0_9 v0_11 f1 f2 f3 f4 f5) (fun r => 0 ≤ r.1 ∧ r.1 ≤ 1200 ∧ 0 ≤ r.2.1 ∧ r.2.1 ≤ 1200 ∧ 0 ≤ r.2.2.1 ∧ r.2.2.1 ≤ 4 ∧ (∀ i : Nat, 0 ≤ r.2.2.2.2 i ∧ r.2.2.2.2 i ≤ 13) ∧ v0_6 ≤ r.1 ∧ v0_8 ≤ r.2.2.1) := by
  unfold fn_X12_readsGroup
  refine zw_zb0 (sf_X12_toldNumber v0_5 v0_6 v0_7 v0_8 v0_9 v0_11 f1 f2 f3 f4 (by first | with_reducible assumption | exact ⟨by with_reducible assumption, by with_reducible assumption⟩ | first | lia | grind [zu_at, zu_atL, zvn]) (by first | with_reducible assumption | exact ⟨by with_reducible assumption, by with_reducible assumption⟩ | first | lia | grind [zu_at, zu_atL, zvn]) (by first | with_reducible assumption | exact ⟨by with_reducible assumption, by with_reducible assumption⟩ | first | lia | grind [zu_at, zu_atL, zvn]) (by first | with_reducible assumption | exact ⟨by with_reducible assumption, by with_reducible assumption⟩ | first | lia | grind [zu_at, zu_atL, zvn]) (by first | with_reducible assumption | exact ⟨by with_reducible assumption, by with_reducible assumption⟩ | first | lia | grind [zu_at, zu_atL, zvn]) (by first | with_reducible assumption | exact ⟨by with_reducible assumption, by with_reducible assumption⟩ | first | lia | grind [zu_at, zu_atL, zvn]) (by first | with_reducible assumption | exact ⟨by with_reducible assumption, by with_reducible assumption⟩ | first | lia | grind [zu_at, zu_atL, zvn]) (by first | with_reducible assumption | exact ⟨by with_reducible assumption, by with_reducible assumption⟩ | first | lia | grind [zu_at, zu_atL, zvn])) (fun o_1 ho_1 => ?_)
  obtain ⟨o_1_0, o_1_1, o_1_2, o_1_3, o_1_4⟩ := o_1
  try dsimp only at ho_1
  obtain ⟨ho_1_0, ho_1_1, ho_1_2, ho_1_3, ho_1_4, ho_1_5, ho_1_6, ho_1_7, ho_1_8, ho_1_9⟩ := ho_1
  refine zw_zb0 (sf_X12_toldNumber v0_5 o_1_1 o_1_2 o_1_3 o_1_4 v0_11 f1 f2 f3 f4 (by first | with_reducible assumption | exact ⟨by with_reducible assumption, by with_reducible assumption⟩ | first | lia | grind [zu_at, zu_atL, zvn]) (by first | with_reducible assumption | exact ⟨by with_reducible assumption, by with_reducible assumption⟩ | first | lia | grind [zu_at, zu_atL, zvn]) (by first | with_reducible assumption | exact ⟨by with_reducible assumption, by with_reducible assumption⟩ | first | lia | grind [zu_at, zu_atL, zvn]) (by first | with_reducible assumption | exact ⟨by with_reducible assumption, by with_reducible assumption⟩ | first | lia | grind [zu_at, zu_atL, zvn]) (by first | with_reducible assumption | exact ⟨by with_reducible assumption, by with_reducible assumption⟩ | first | lia | grind [zu_at, zu_atL, zvn]) (by first | with_reducible assumption | exact ⟨by with_reducible assumption, by with_reducible assumption⟩ | first | lia | grind [zu_at, zu_atL, zvn]) (by first | with_reducible assumption | exact ⟨by with_reducible assumption, by with_reducible assumption⟩ | first | lia | grind [zu_at, zu_atL, zvn]) (by first | with_reducible assumption | exact ⟨by with_reducible assumption, by with_reducible assumption⟩ | first | lia | grind [zu_at, zu_atL, zvn])) (fun o_5 ho_5 => ?_)
  obtain ⟨o_5_0, o_5_1, o_5_2, o_5_3, o_5_4⟩ := o_5
  try dsimp only at ho_5
  obtain ⟨ho_5_0, ho_5_1, ho_5_2, ho_5_3, ho_5_4, ho_5_5, ho_5_6, ho_5_7, ho_5_8, ho_5_9⟩ := ho_5
  refine zw_zb0 (sf_X12_goesWell o_5_3 (by first | with_reducible assumption | exact ⟨by with_reducible assumption, by with_reducible assumption⟩ | first | lia | grind [zu_at, zu_atL, zvn])) (fun o_9 ho_9 => ?_)
  obtain ⟨ho_9_0, ho_9_1, ho_9_2, ho_9_3, ho_9_4, ho_9_5⟩ := ho_9
  refine zw_zj (fun s_13 => 0 ≤ s_13.1 ∧ s_13.1 ≤ 4 ∧ v0_8 ≤ s_13.1 ∧ o_1_3 ≤ s_13.1 ∧ o_5_3 ≤ s_13.1) (fun s_13 Hj_13 => ?_) (fun j_13 hj_13 => ?_)
  · obtain ⟨s_13_0, s_13_1⟩ := s_13
    try dsimp only at Hj_13
    obtain ⟨Hj_13_0, Hj_13_1, Hj_13_2, Hj_13_3, Hj_13_4⟩ := Hj_13
    refine zw_zb0 (sf_X12_goesWell s_13_0 (by first | with_reducible assumption | exact ⟨by with_reducible assumption, by with_reducible assumption⟩ | ((try clear hj_13); first | lia | grind [zu_at, zu_atL, zvn]))) (fun o_14 ho_14 => ?_)
    obtain ⟨ho_14_0, ho_14_1, ho_14_2, ho_14_3, ho_14_4, ho_14_5⟩ := ho_14
    refine zw_if (fun c1 => ?_) (fun c1 => ?_)
    · refine zw_some ?_
      first | exact True.intro | ((try dsimp only); (repeat' apply And.intro) <;> first | with_reducible assumption | with_reducible exact fun _ => Or.inl rfl | with_reducible exact fun _ _ _ => rfl | with_reducible exact fun _ _ h => Or.inl h | with_reducible rfl | ((with_reducible refine zU7 ?_ ⟨?_, ?_⟩) <;> first | with_reducible assumption | lia) | ((with_reducible refine zU1 ?_) <;> grind [z32_in]) | with_reducible exact zU1m | ((with_reducible refine zU4 ?_) <;> ((try clear hj_13); lia)) | ((with_reducible refine zU2 (h_f3 _) ?_ ?_) <;> first | lia | grind [z32_in]) | ((with_reducible refine zU3 ?_) <;> ((try clear hj_13); lia)) | ((with_reducible refine zU5 (h_f5 _) ?_) <;> with_reducible assumption) | ((with_reducible refine zU6 ?_) <;> ((try clear hj_13); lia)) | ((with_reducible refine zU8 ⟨?_, ?_⟩) <;> ((try clear hj_13); first | lia | grind)) | ((with_reducible refine zO1 ?_) <;> with_reducible assumption) | ((with_reducible refine zO2 ?_) <;> with_reducible assumption) | ((try clear hj_13); first | lia | grind [zu_at, zu_atL, zvn]))
    refine zw_zb0 (sf_X12_n o_1_0 v0_11 (by first | with_reducible assumption | exact ⟨by with_reducible assumption, by with_reducible assumption⟩ | ((try clear hj_13); first | lia | grind [zu_at, zu_atL, zvn])) (by first | with_reducible assumption | exact ⟨by with_reducible assumption, by with_reducible assumption⟩ | ((try clear hj_13); first | lia | grind [zu_at, zu_atL, zvn]))) (fun o_19 ho_19 => ?_)
    obtain ⟨ho_19_0, ho_19_1, ho_19_2, ho_19_3⟩ := ho_19
    refine zw_zg32 28 (by decide) (by (try dsimp only); ((try clear hj_13); first | lia | grind [zu_at, zu_atL, zvn])) ?_
    refine zw_zb0 (sf_X12_n o_5_0 v0_11 (by first | with_reducible assumption | exact ⟨by with_reducible assumption, by with_reducible assumption⟩ | ((try clear hj_13); first | lia | grind [zu_at, zu_atL, zvn])) (by first | with_reducible assumption | exact ⟨by with_reducible assumption, by with_reducible assumption⟩ | ((try clear hj_13); first | lia | grind [zu_at, zu_atL, zvn]))) (fun o_24 ho_24 => ?_)
    obtain ⟨ho_24_0, ho_24_1, ho_24_2, ho_24_3⟩ := ho_24
    refine zw_zg32 28 (by decide) (by (try dsimp only); ((try clear hj_13); first | lia | grind [zu_at, zu_atL, zvn])) ?_
    refine zw_zb0 (sf_X12_lesser ((f5 o_19.toNatClampNeg).toInt64) ((f5 o_24.toNatClampNeg).toInt64)) (fun o_29 ho_29 => ?_)
    have hm9 := zmin13 (h_f5 _) (h_f5 _) ho_29
    refine zw_zl32 (fun s_33 => (∀ i : Nat, 0 ≤ s_33.2 i ∧ s_33.2 i ≤ 13) ∧ 0 ≤ s_33.1 ∧ s_33.1 ≤ 14) (fun s_33 => 14 - s_33.1) (by (try dsimp only); (repeat' apply And.intro) <;> first | with_reducible assumption | with_reducible exact fun _ => Or.inl rfl | with_reducible exact fun _ _ _ => rfl | with_reducible exact fun _ _ h => Or.inl h | with_reducible rfl | ((with_reducible refine zU7 ?_ ⟨?_, ?_⟩) <;> first | with_reducible assumption | lia) | ((with_reducible refine zU1 ?_) <;> grind [z32_in]) | with_reducible exact zU1m | ((with_reducible refine zU4 ?_) <;> ((try clear hj_13); lia)) | ((with_reducible refine zU2 (h_f3 _) ?_ ?_) <;> first | lia | grind [z32_in]) | ((with_reducible refine zU3 ?_) <;> ((try clear hj_13); lia)) | ((with_reducible refine zU5 (h_f5 _) ?_) <;> with_reducible assumption) | ((with_reducible refine zU6 ?_) <;> ((try clear hj_13); lia)) | ((with_reducible refine zU8 ⟨?_, ?_⟩) <;> ((try clear hj_13); first | lia | grind)) | ((with_reducible refine zO1 ?_) <;> with_reducible assumption) | ((with_reducible refine zO2 ?_) <;> with_reducible assumption) | ((try clear hj_13); first | lia | grind [zu_at, zu_atL, zvn])) (by (try dsimp only); ((try clear hj_13); first | lia | grind [zu_at, zu_atL, zvn])) (fun s_33 back_33 Hback_33 hback_33 => ?_)
    obtain ⟨s_33_0, s_33_1⟩ := s_33
    try dsimp only at Hback_33 hback_33
    obtain ⟨Hback_33_0, Hback_33_1, Hback_33_2⟩ := Hback_33
    refine zw_zg32 2 (by decide) (by (try dsimp only); ((try clear hj_13); (try clear hback_33); first | lia | grind [zu_at, zu_atL, zvn])) ?_
    refine zw_if (fun c2 => ?_) (fun c2 => ?_)
    · refine zw_some ?_
      first | exact True.intro | ((try dsimp only); (repeat' apply And.intro) <;> first | with_reducible assumption | with_reducible exact fun _ => Or.inl rfl | with_reducible exact fun _ _ _ => rfl | with_reducible exact fun _ _ h => Or.inl h | with_reducible rfl | ((with_reducible refine zU7 ?_ ⟨?_, ?_⟩) <;> first | with_reducible assumption | lia) | ((with_reducible refine zU1 ?_) <;> grind [z32_in]) | with_reducible exact zU1m | ((with_reducible refine zU4 ?_) <;> ((try clear hj_13); (try clear hback_33); lia)) | ((with_reducible refine zU2 (h_f3 _) ?_ ?_) <;> first | lia | grind [z32_in]) | ((with_reducible refine zU3 ?_) <;> ((try clear hj_13); (try clear hback_33); lia)) | ((with_reducible refine zU5 (h_f5 _) ?_) <;> with_reducible assumption) | ((with_reducible refine zU6 ?_) <;> ((try clear hj_13); (try clear hback_33); lia)) | ((with_reducible refine zU8 ⟨?_, ?_⟩) <;> ((try clear hj_13); (try clear hback_33); first | lia | grind)) | ((with_reducible refine zO1 ?_) <;> with_reducible assumption) | ((with_reducible refine zO2 ?_) <;> with_reducible assumption) | ((try clear hj_13); (try clear hback_33); first | lia | grind [zu_at, zu_atL, zvn]))
    refine zw_zb0 (sf_X12_n s_33_0 v0_11 (by first | with_reducible assumption | exact ⟨by with_reducible assumption, by with_reducible assumption⟩ | ((try clear hj_13); (try clear hback_33); first | lia | grind [zu_at, zu_atL, zvn])) (by first | with_reducible assumption | exact ⟨by with_reducible assumption, by with_reducible assumption⟩ | ((try clear hj_13); (try clear hback_33); first | lia | grind [zu_at, zu_atL, zvn]))) (fun o_36 ho_36 => ?_)
    obtain ⟨ho_36_0, ho_36_1, ho_36_2, ho_36_3⟩ := ho_36
    refine zw_zg32 28 (by decide) (by (try dsimp only); ((try clear hj_13); (try clear hback_33); first | lia | grind [zu_at, zu_atL, zvn])) ?_
    refine zw_zj (fun _ => (s_33_1 o_36.toNatClampNeg) ≤ 13 ∧ 0 ≤ (s_33_1 o_36.toNatClampNeg)) (fun s_41 Hj_41 => ?_) (fun j_41 hj_41 => ?_)
    · obtain ⟨Hj_41_0, Hj_41_1⟩ := Hj_41
      refine zw_zb0 (sf_X12_n s_33_0 v0_11 (by first | with_reducible assumption | exact ⟨by with_reducible assumption, by with_reducible assumption⟩ | ((try clear hj_13); (try clear hback_33); (try clear hj_41); first | lia | grind [zu_at, zu_atL, zvn])) (by first | with_reducible assumption | exact ⟨by with_reducible assumption, by with_reducible assumption⟩ | ((try clear hj_13); (try clear hback_33); (try clear hj_41); first | lia | grind [zu_at, zu_atL, zvn]))) (fun o_42 ho_42 => ?_)
      obtain ⟨ho_42_0, ho_42_1, ho_42_2, ho_42_3⟩ := ho_42
      refine zw_zg32 28 (by decide) (by (try dsimp only); ((try clear hj_13); (try clear hback_33); (try clear hj_41); first | lia | grind [zu_at, zu_atL, zvn])) ?_
      exact hback_33 _ (by (try dsimp only); (repeat' apply And.intro) <;> first | with_reducible assumption | with_reducible exact fun _ => Or.inl rfl | with_reducible exact fun _ _ _ => rfl | with_reducible exact fun _ _ h => Or.inl h | with_reducible rfl | ((with_reducible refine zU7 ?_ ⟨?_, ?_⟩) <;> first | with_reducible assumption | lia) | ((with_reducible refine zU1 ?_) <;> grind [z32_in]) | with_reducible exact zU1m | ((with_reducible refine zU4 ?_) <;> ((try clear hj_13); (try clear hback_33); (try clear hj_41); lia)) | ((with_reducible refine zU2 (h_f3 _) ?_ ?_) <;> first | lia | grind [z32_in]) | ((with_reducible refine zU3 ?_) <;> ((try clear hj_13); (try clear hback_33); (try clear hj_41); lia)) | ((with_reducible refine zU5 (h_f5 _) ?_) <;> with_reducible assumption) | ((with_reducible refine zU6 ?_) <;> ((try clear hj_13); (try clear hback_33); (try clear hj_41); lia)) | ((with_reducible refine zU8 ⟨?_, ?_⟩) <;> ((try clear hj_13); (try clear hback_33); (try clear hj_41); first | lia | grind)) | ((with_reducible refine zO1 ?_) <;> with_reducible assumption) | ((with_reducible refine zO2 ?_) <;> with_reducible assumption) | ((try clear hj_13); (try clear hback_33); (try clear hj_41); first | lia | grind [zu_at, zu_atL, zvn])) (by (try dsimp only); ((try clear hj_13); (try clear hback_33); (try clear hj_41); first | lia | grind [zu_at, zu_atL, zvn])) (by (try dsimp only); ((try clear hj_13); (try clear hback_33); (try clear hj_41); first | lia | grind [zu_at, zu_atL, zvn]))
    refine zw_if (fun c3 => ?_) (fun c3 => ?_)
    · exact hj_41 _ (by first | exact True.intro | ((try dsimp only); (repeat' apply And.intro) <;> first | with_reducible assumption | with_reducible exact fun _ => Or.inl rfl | with_reducible exact fun _ _ _ => rfl | with_reducible exact fun _ _ h => Or.inl h | with_reducible rfl | ((with_reducible refine zU7 ?_ ⟨?_, ?_⟩) <;> first | with_reducible assumption | lia) | ((with_reducible refine zU1 ?_) <;> grind [z32_in]) | with_reducible exact zU1m | ((with_reducible refine zU4 ?_) <;> ((try clear hj_13); (try clear hback_33); (try clear hj_41); lia)) | ((with_reducible refine zU2 (h_f3 _) ?_ ?_) <;> first | lia | grind [z32_in]) | ((with_reducible refine zU3 ?_) <;> ((try clear hj_13); (try clear hback_33); (try clear hj_41); lia)) | ((with_reducible refine zU5 (h_f5 _) ?_) <;> with_reducible assumption) | ((with_reducible refine zU6 ?_) <;> ((try clear hj_13); (try clear hback_33); (try clear hj_41); lia)) | ((with_reducible refine zU8 ⟨?_, ?_⟩) <;> ((try clear hj_13); (try clear hback_33); (try clear hj_41); first | lia | grind)) | ((with_reducible refine zO1 ?_) <;> with_reducible assumption) | ((with_reducible refine zO2 ?_) <;> with_reducible assumption) | ((try clear hj_13); (try clear hback_33); (try clear hj_41); first | lia | grind [zu_at, zu_atL, zvn])))
    refine zw_zb0 (sf_X12_n s_33_0 v0_11 (by first | with_reducible assumption | exact ⟨by with_reducible assumption, by with_reducible assumption⟩ | ((try clear hj_13); (try clear hback_33); (try clear hj_41); first | lia | grind [zu_at, zu_atL, zvn])) (by first | with_reducible assumption | exact ⟨by with_reducible assumption, by with_reducible assumption⟩ | ((try clear hj_13); (try clear hback_33); (try clear hj_41); first | lia | grind [zu_at, zu_atL, zvn]))) (fun o_48 ho_48 => ?_)
    obtain ⟨ho_48_0, ho_48_1, ho_48_2, ho_48_3⟩ := ho_48
    refine zw_zg32 28 (by decide) (by (try dsimp only); ((try clear hj_13); (try clear hback_33); (try clear hj_41); first | lia | grind [zu_at, zu_atL, zvn])) ?_
    refine zw_if (fun c4 => ?_) (fun c4 => ?_)
    · exact hj_41 _ (by first | exact True.intro | ((try dsimp only); (repeat' apply And.intro) <;> first | with_reducible assumption | with_reducible exact fun _ => Or.inl rfl | with_reducible exact fun _ _ _ => rfl | with_reducible exact fun _ _ h => Or.inl h | with_reducible rfl | ((with_reducible refine zU7 ?_ ⟨?_, ?_⟩) <;> first | with_reducible assumption | lia) | ((with_reducible refine zU1 ?_) <;> grind [z32_in]) | with_reducible exact zU1m | ((with_reducible refine zU4 ?_) <;> ((try clear hj_13); (try clear hback_33); (try clear hj_41); lia)) | ((with_reducible refine zU2 (h_f3 _) ?_ ?_) <;> first | lia | grind [z32_in]) | ((with_reducible refine zU3 ?_) <;> ((try clear hj_13); (try clear hback_33); (try clear hj_41); lia)) | ((with_reducible refine zU5 (h_f5 _) ?_) <;> with_reducible assumption) | ((with_reducible refine zU6 ?_) <;> ((try clear hj_13); (try clear hback_33); (try clear hj_41); lia)) | ((with_reducible refine zU8 ⟨?_, ?_⟩) <;> ((try clear hj_13); (try clear hback_33); (try clear hj_41); first | lia | grind)) | ((with_reducible refine zO1 ?_) <;> with_reducible assumption) | ((with_reducible refine zO2 ?_) <;> with_reducible assumption) | ((try clear hj_13); (try clear hback_33); (try clear hj_41); first | lia | grind [zu_at, zu_atL, zvn])))
    exact hback_33 _ (by (try dsimp only); (repeat' apply And.intro) <;> first | with_reducible assumption | with_reducible exact fun _ => Or.inl rfl | with_reducible exact fun _ _ _ => rfl | with_reducible exact fun _ _ h => Or.inl h | with_reducible rfl | ((with_reducible refine zU7 ?_ ⟨?_, ?_⟩) <;> first | with_reducible assumption | lia) | ((with_reducible refine zU1 ?_) <;> grind [z32_in]) | with_reducible exact zU1m | ((with_reducible refine zU4 ?_) <;> ((try clear hj_13); (try clear hback_33); (try clear hj_41); lia)) | ((with_reducible refine zU2 (h_f3 _) ?_ ?_) <;> first | lia | grind [z32_in]) | ((with_reducible refine zU3 ?_) <;> ((try clear hj_13); (try clear hback_33); (try clear hj_41); lia)) | ((with_reducible refine zU5 (h_f5 _) ?_) <;> with_reducible assumption) | ((with_reducible refine zU6 ?_) <;> ((try clear hj_13); (try clear hback_33); (try clear hj_41); lia)) | ((with_reducible refine zU8 ⟨?_, ?_⟩) <;> ((try clear hj_13); (try clear hback_33); (try clear hj_41); first | lia | grind)) | ((with_reducible refine zO1 ?_) <;> with_reducible assumption) | ((with_reducible refine zO2 ?_) <;> with_reducible assumption) | ((try clear hj_13); (try clear hback_33); (try clear hj_41); first | lia | grind [zu_at, zu_atL, zvn])) (by (try dsimp only); ((try clear hj_13); (try clear hback_33); (try clear hj_41); first | lia | grind [zu_at, zu_atL, zvn])) (by (try dsimp only); ((try clear hj_13); (try clear hback_33); (try clear hj_41); first | lia | grind [zu_at, zu_atL, zvn]))
  refine zw_if (fun c5 => ?_) (fun c5 => ?_)
  · exact hj_13 _ (by first | exact True.intro | ((try dsimp only); (repeat' apply And.intro) <;> first | with_reducible assumption | with_reducible exact fun _ => Or.inl rfl | with_reducible exact fun _ _ _ => rfl | with_reducible exact fun _ _ h => Or.inl h | with_reducible rfl | ((with_reducible refine zU7 ?_ ⟨?_, ?_⟩) <;> first | with_reducible assumption | lia) | ((with_reducible refine zU1 ?_) <;> grind [z32_in]) | with_reducible exact zU1m | ((with_reducible refine zU4 ?_) <;> ((try clear hj_13); (try clear hback_33); (try clear hj_41); lia)) | ((with_reducible refine zU2 (h_f3 _) ?_ ?_) <;> first | lia | grind [z32_in]) | ((with_reducible refine zU3 ?_) <;> ((try clear hj_13); (try clear hback_33); (try clear hj_41); lia)) | ((with_reducible refine zU5 (h_f5 _) ?_) <;> with_reducible assumption) | ((with_reducible refine zU6 ?_) <;> ((try clear hj_13); (try clear hback_33); (try clear hj_41); lia)) | ((with_reducible refine zU8 ⟨?_, ?_⟩) <;> ((try clear hj_13); (try clear hback_33); (try clear hj_41); first | lia | grind)) | ((with_reducible refine zO1 ?_) <;> with_reducible assumption) | ((with_reducible refine zO2 ?_) <;> with_reducible assumption) | ((try clear hj_13); (try clear hback_33); (try clear hj_41); first | lia | grind [zu_at, zu_atL, zvn])))
  refine zw_if (fun c6 => ?_) (fun c6 => ?_)
  · refine zw_zb0 (sf_X12_faults 3 o_5_2 o_5_3 o_5_4 (by first | with_reducible assumption | exact ⟨by with_reducible assumption, by with_reducible assumption⟩ | ((try clear hj_13); (try clear hback_33); (try clear hj_41); first | lia | grind [zu_at, zu_atL, zvn])) (by first | with_reducible assumption | exact ⟨by with_reducible assumption, by with_reducible assumption⟩ | ((try clear hj_13); (try clear hback_33); (try clear hj_41); first | lia | grind [zu_at, zu_atL, zvn]))) (fun o_56 ho_56 => ?_)
    obtain ⟨o_56_0, o_56_1⟩ := o_56
    try dsimp only at ho_56
    obtain ⟨ho_56_0, ho_56_1, ho_56_2, ho_56_3⟩ := ho_56
    exact hj_13 _ (by first | exact True.intro | ((try dsimp only); (repeat' apply And.intro) <;> first | with_reducible assumption | with_reducible exact fun _ => Or.inl rfl | with_reducible exact fun _ _ _ => rfl | with_reducible exact fun _ _ h => Or.inl h | with_reducible rfl | ((with_reducible refine zU7 ?_ ⟨?_, ?_⟩) <;> first | with_reducible assumption | lia) | ((with_reducible refine zU1 ?_) <;> grind [z32_in]) | with_reducible exact zU1m | ((with_reducible refine zU4 ?_) <;> ((try clear hj_13); (try clear hback_33); (try clear hj_41); lia)) | ((with_reducible refine zU2 (h_f3 _) ?_ ?_) <;> first | lia | grind [z32_in]) | ((with_reducible refine zU3 ?_) <;> ((try clear hj_13); (try clear hback_33); (try clear hj_41); lia)) | ((with_reducible refine zU5 (h_f5 _) ?_) <;> with_reducible assumption) | ((with_reducible refine zU6 ?_) <;> ((try clear hj_13); (try clear hback_33); (try clear hj_41); lia)) | ((with_reducible refine zU8 ⟨?_, ?_⟩) <;> ((try clear hj_13); (try clear hback_33); (try clear hj_41); first | lia | grind)) | ((with_reducible refine zO1 ?_) <;> with_reducible assumption) | ((with_reducible refine zO2 ?_) <;> with_reducible assumption) | ((try clear hj_13); (try clear hback_33); (try clear hj_41); first | lia | grind [zu_at, zu_atL, zvn])))
  exact hj_13 _ (by first | exact True.intro | ((try dsimp only); (repeat' apply And.intro) <;> first | with_reducible assumption | with_reducible exact fun _ => Or.inl rfl | with_reducible exact fun _ _ _ => rfl | with_reducible exact fun _ _ h => Or.inl h | with_reducible rfl | ((with_reducible refine zU7 ?_ ⟨?_, ?_⟩) <;> first | with_reducible assumption | lia) | ((with_reducible refine zU1 ?_) <;> grind [z32_in]) | with_reducible exact zU1m | ((with_reducible refine zU4 ?_) <;> ((try clear hj_13); (try clear hback_33); (try clear hj_41); lia)) | ((with_reducible refine zU2 (h_f3 _) ?_ ?_) <;> first | lia | grind [z32_in]) | ((with_reducible refine zU3 ?_) <;> ((try clear hj_13); (try clear hback_33); (try clear hj_41); lia)) | ((with_reducible refine zU5 (h_f5 _) ?_) <;> with_reducible assumption) | ((with_reducible refine zU6 ?_) <;> ((try clear hj_13); (try clear hback_33); (try clear hj_41); lia)) | ((with_reducible refine zU8 ⟨?_, ?_⟩) <;> ((try clear hj_13); (try clear hback_33); (try clear hj_41); first | lia | grind)) | ((with_reducible refine zO1 ?_) <;> with_reducible assumption) | ((with_reducible refine zO2 ?_) <;> with_reducible assumption) | ((try clear hj_13); (try clear hback_33); (try clear hj_41); first | lia | grind [zu_at, zu_atL, zvn])))
set_option maxHeartbeats 4000000 in
set_option maxRecDepth 100000 in
theorem sf_X12_readsAnswer (v0_5 : Int32) (v0_6 : Int32) (v0_7 : Int32) (v0_8 : Int32) (v0_9 : Int32) (v0_11 : Int32) (f1 : Nat → Int32) (f2 : Nat → Int32) (f3 : Nat → Int32) (f4 : Nat → Int32) (f5 : Nat → Int32) (h_v0_5 : 0 ≤ v0_5 ∧ v0_5 ≤ 1200) (h_v0_6 : 0 ≤ v0_6 ∧ v0_6 ≤ 1200) (h_v0_7 : 0 ≤ v0_7 ∧ v0_7 ≤ 1200) (h_v0_8 : 0 ≤ v0_8 ∧ v0_8 ≤ 4) (h_v0_11 : 1 ≤ v0_11 ∧ v0_11 ≤ 1) (h_f1 : (∀ i : Nat, 0 ≤ f1 i ∧ f1 i ≤ 255)) (h_f3 : (∀ i : Nat, 0 ≤ f3 i ∧ f3 i ≤ 14)) (hx_0 : (∀ k : Nat, k < 71 → f2 k = zTab k)) : zw (fn_X12_readsAnswer v0_5 v0_6 v0_7 v0_8 v0_9 v0_11 f1 f2 f3 f4 f5) (fun r => 0 ≤ r.1 ∧ r.1 ≤ 1200 ∧ 0 ≤ r.2.1 ∧ r.2.1 ≤ 1200 ∧ 0 ≤ r.2.2.1 ∧ r.2.2.1 ≤ 4 ∧ v0_6 ≤ r.1 ∧ v0_8 ≤ r.2.2.1) := by
  unfold fn_X12_readsAnswer
  refine zw_zb0 (sf_X12_toldNumber v0_5 v0_6 v0_7 v0_8 v0_9 v0_11 f1 f2 f3 f4 (by first | with_reducible assumption | exact ⟨by with_reducible assumption, by with_reducible assumption⟩ | first | lia | grind [zu_at, zu_atL, zvn]) (by first | with_reducible assumption | exact ⟨by with_reducible assumption, by with_reducible assumption⟩ | first | lia | grind [zu_at, zu_atL, zvn]) (by first | with_reducible assumption | exact ⟨by with_reducible assumption, by with_reducible assumption⟩ | first | lia | grind [zu_at, zu_atL, zvn]) (by first | with_reducible assumption | exact ⟨by with_reducible assumption, by with_reducible assumption⟩ | first | lia | grind [zu_at, zu_atL, zvn]) (by first | with_reducible assumption | exact ⟨by with_reducible assumption, by with_reducible assumption⟩ | first | lia | grind [zu_at, zu_atL, zvn]) (by first | with_reducible assumption | exact ⟨by with_reducible assumption, by with_reducible assumption⟩ | first | lia | grind [zu_at, zu_atL, zvn]) (by first | with_reducible assumption | exact ⟨by with_reducible assumption, by with_reducible assumption⟩ | first | lia | grind [zu_at, zu_atL, zvn]) (by first | with_reducible assumption | exact ⟨by with_reducible assumption, by with_reducible assumption⟩ | first | lia | grind [zu_at, zu_atL, zvn])) (fun o_1 ho_1 => ?_)
  obtain ⟨o_1_0, o_1_1, o_1_2, o_1_3, o_1_4⟩ := o_1
  try dsimp only at ho_1
  obtain ⟨ho_1_0, ho_1_1, ho_1_2, ho_1_3, ho_1_4, ho_1_5, ho_1_6, ho_1_7, ho_1_8, ho_1_9⟩ := ho_1
  refine zw_zb0 (sf_X12_must 12 v0_5 o_1_1 o_1_2 o_1_3 o_1_4 f1 f2 (by first | with_reducible assumption | exact ⟨by with_reducible assumption, by with_reducible assumption⟩ | first | lia | grind [zu_at, zu_atL, zvn]) (by first | with_reducible assumption | exact ⟨by with_reducible assumption, by with_reducible assumption⟩ | first | lia | grind [zu_at, zu_atL, zvn]) (by first | with_reducible assumption | exact ⟨by with_reducible assumption, by with_reducible assumption⟩ | first | lia | grind [zu_at, zu_atL, zvn]) (by first | with_reducible assumption | exact ⟨by with_reducible assumption, by with_reducible assumption⟩ | first | lia | grind [zu_at, zu_atL, zvn]) (by first | with_reducible assumption | exact ⟨by with_reducible assumption, by with_reducible assumption⟩ | first | lia | grind [zu_at, zu_atL, zvn]) (by first | with_reducible assumption | exact ⟨by with_reducible assumption, by with_reducible assumption⟩ | first | lia | grind [zu_at, zu_atL, zvn])) (fun o_5 ho_5 => ?_)
  obtain ⟨o_5_0, o_5_1, o_5_2, o_5_3⟩ := o_5
  try dsimp only at ho_5
  obtain ⟨ho_5_0, ho_5_1, ho_5_2, ho_5_3, ho_5_4, ho_5_5, ho_5_6, ho_5_7⟩ := ho_5
  refine zw_zb0 (sf_X12_number (0 : Int64) (1000000 : Int64) v0_5 o_5_0 o_5_1 o_5_2 o_5_3 f1 (by first | with_reducible assumption | exact ⟨by with_reducible assumption, by with_reducible assumption⟩ | first | lia | grind [zu_at, zu_atL, zvn]) (by first | with_reducible assumption | exact ⟨by with_reducible assumption, by with_reducible assumption⟩ | first | lia | grind [zu_at, zu_atL, zvn]) (by first | with_reducible assumption | exact ⟨by with_reducible assumption, by with_reducible assumption⟩ | first | lia | grind [zu_at, zu_atL, zvn]) (by first | with_reducible assumption | exact ⟨by with_reducible assumption, by with_reducible assumption⟩ | first | lia | grind [zu_at, zu_atL, zvn]) (by first | with_reducible assumption | exact ⟨by with_reducible assumption, by with_reducible assumption⟩ | first | lia | grind [zu_at, zu_atL, zvn])) (fun o_9 ho_9 => ?_)
  obtain ⟨o_9_0, o_9_1, o_9_2, o_9_3, o_9_4⟩ := o_9
  try dsimp only at ho_9
  obtain ⟨ho_9_0, ho_9_1, ho_9_2, ho_9_3, ho_9_4, ho_9_5, ho_9_6, ho_9_7, ho_9_8⟩ := ho_9
  refine zw_zb0 (sf_X12_goesWell o_9_3 (by first | with_reducible assumption | exact ⟨by with_reducible assumption, by with_reducible assumption⟩ | first | lia | grind [zu_at, zu_atL, zvn])) (fun o_13 ho_13 => ?_)
  obtain ⟨ho_13_0, ho_13_1, ho_13_2, ho_13_3, ho_13_4, ho_13_5⟩ := ho_13
  refine zw_if (fun c1 => ?_) (fun c1 => ?_)
  · refine zw_some ?_
    first | exact True.intro | ((try dsimp only); (repeat' apply And.intro) <;> first | with_reducible assumption | with_reducible exact fun _ => Or.inl rfl | with_reducible exact fun _ _ _ => rfl | with_reducible exact fun _ _ h => Or.inl h | with_reducible rfl | ((with_reducible refine zU7 ?_ ⟨?_, ?_⟩) <;> first | with_reducible assumption | lia) | ((with_reducible refine zU1 ?_) <;> grind [z32_in]) | with_reducible exact zU1m | ((with_reducible refine zU4 ?_) <;> lia) | ((with_reducible refine zU2 (h_f3 _) ?_ ?_) <;> first | lia | grind [z32_in]) | ((with_reducible refine zU3 ?_) <;> lia) | ((with_reducible refine zU5 (h_f5 _) ?_) <;> with_reducible assumption) | ((with_reducible refine zU6 ?_) <;> lia) | ((with_reducible refine zU8 ⟨?_, ?_⟩) <;> first | lia | grind) | ((with_reducible refine zO1 ?_) <;> with_reducible assumption) | ((with_reducible refine zO2 ?_) <;> with_reducible assumption) | first | lia | grind [zu_at, zu_atL, zvn])
  refine zw_zb0 (sf_X12_n o_1_0 v0_11 (by first | with_reducible assumption | exact ⟨by with_reducible assumption, by with_reducible assumption⟩ | first | lia | grind [zu_at, zu_atL, zvn]) (by first | with_reducible assumption | exact ⟨by with_reducible assumption, by with_reducible assumption⟩ | first | lia | grind [zu_at, zu_atL, zvn])) (fun o_18 ho_18 => ?_)
  obtain ⟨ho_18_0, ho_18_1, ho_18_2, ho_18_3⟩ := ho_18
  refine zw_zg32 28 (by decide) (by (try dsimp only); first | lia | grind [zu_at, zu_atL, zvn]) ?_
  refine zw_some ?_
  first | exact True.intro | ((try dsimp only); (repeat' apply And.intro) <;> first | with_reducible assumption | with_reducible exact fun _ => Or.inl rfl | with_reducible exact fun _ _ _ => rfl | with_reducible exact fun _ _ h => Or.inl h | with_reducible rfl | ((with_reducible refine zU7 ?_ ⟨?_, ?_⟩) <;> first | with_reducible assumption | lia) | ((with_reducible refine zU1 ?_) <;> grind [z32_in]) | with_reducible exact zU1m | ((with_reducible refine zU4 ?_) <;> lia) | ((with_reducible refine zU2 (h_f3 _) ?_ ?_) <;> first | lia | grind [z32_in]) | ((with_reducible refine zU3 ?_) <;> lia) | ((with_reducible refine zU5 (h_f5 _) ?_) <;> with_reducible assumption) | ((with_reducible refine zU6 ?_) <;> lia) | ((with_reducible refine zU8 ⟨?_, ?_⟩) <;> first | lia | grind) | ((with_reducible refine zO1 ?_) <;> with_reducible assumption) | ((with_reducible refine zO2 ?_) <;> with_reducible assumption) | first | lia | grind [zu_at, zu_atL, zvn])
set_option maxHeartbeats 4000000 in
set_option maxRecDepth 100000 in
theorem sf_X12_isBeginning (p0 : Int32) : zw (fn_X12_isBeginning p0) (fun r => 0 ≤ r ∧ r ≤ 1 ∧ (r = 1 → 0 ≤ p0 ∧ p0 ≤ 11) ∧ (¬ r = 1 → r ≤ 0) ∧ (¬ r = 0 → 0 ≤ p0 ∧ 1 ≤ r ∧ p0 ≤ 11)) := by
  unfold fn_X12_isBeginning
  refine zw_if (fun c1 => ?_) (fun c1 => ?_)
  · refine zw_some ?_
    first | exact True.intro | ((try dsimp only); (repeat' apply And.intro) <;> first | with_reducible assumption | first | lia | grind [zu_at, zu_atL, zvn])
  refine zw_if (fun c2 => ?_) (fun c2 => ?_)
  · refine zw_some ?_
    first | exact True.intro | ((try dsimp only); (repeat' apply And.intro) <;> first | with_reducible assumption | first | lia | grind [zu_at, zu_atL, zvn])
  refine zw_if (fun c3 => ?_) (fun c3 => ?_)
  · refine zw_some ?_
    first | exact True.intro | ((try dsimp only); (repeat' apply And.intro) <;> first | with_reducible assumption | first | lia | grind [zu_at, zu_atL, zvn])
  refine zw_if (fun c4 => ?_) (fun c4 => ?_)
  · refine zw_some ?_
    first | exact True.intro | ((try dsimp only); (repeat' apply And.intro) <;> first | with_reducible assumption | first | lia | grind [zu_at, zu_atL, zvn])
  refine zw_if (fun c5 => ?_) (fun c5 => ?_)
  · refine zw_some ?_
    first | exact True.intro | ((try dsimp only); (repeat' apply And.intro) <;> first | with_reducible assumption | first | lia | grind [zu_at, zu_atL, zvn])
  refine zw_if (fun c6 => ?_) (fun c6 => ?_)
  · refine zw_some ?_
    first | exact True.intro | ((try dsimp only); (repeat' apply And.intro) <;> first | with_reducible assumption | first | lia | grind [zu_at, zu_atL, zvn])
  refine zw_if (fun c7 => ?_) (fun c7 => ?_)
  · refine zw_some ?_
    first | exact True.intro | ((try dsimp only); (repeat' apply And.intro) <;> first | with_reducible assumption | first | lia | grind [zu_at, zu_atL, zvn])
  refine zw_some ?_
  first | exact True.intro | ((try dsimp only); (repeat' apply And.intro) <;> first | with_reducible assumption | first | lia | grind [zu_at, zu_atL, zvn])
set_option maxHeartbeats 4000000 in
set_option maxRecDepth 100000 in
theorem sf_X12_readsStatement (p1 : Int32) (v0_5 : Int32) (v0_6 : Int32) (v0_7 : Int32) (v0_8 : Int32) (v0_9 : Int32) (v0_11 : Int32) (w0_28 : Int64) (f1 : Nat → Int32) (f2 : Nat → Int32) (f3 : Nat → Int32) (f4 : Nat → Int32) (f5 : Nat → Int32) (f6 : Nat → Int32) (f7 : Nat → Int32) (f8 : Nat → Int32) (f9 : Nat → Int32) (f10 : Nat → Int32) (f11 : Nat → Int32) (f12 : Nat → Int32) (f13 : Nat → Int32) (f14 : Nat → Int32) (f15 : Nat → Int32) (f16 : Nat → Int32) (f17 : Nat → Int64) (f18 : Nat → Int64) (h_p1 : 0 ≤ p1 ∧ p1 ≤ 40) (h_v0_5 : 0 ≤ v0_5 ∧ v0_5 ≤ 1200) (h_v0_6 : 0 ≤ v0_6 ∧ v0_6 ≤ 1200) (h_v0_7 : 0 ≤ v0_7 ∧ v0_7 ≤ 1200) (h_v0_8 : 0 ≤ v0_8 ∧ v0_8 ≤ 4) (h_v0_11 : 1 ≤ v0_11 ∧ v0_11 ≤ 1) (h_f1 : (∀ i : Nat, 0 ≤ f1 i ∧ f1 i ≤ 255)) (h_f3 : (∀ i : Nat, 0 ≤ f3 i ∧ f3 i ≤ 4)) (h_f4 : (∀ i : Nat, 0 ≤ f4 i ∧ f4 i ≤ 14)) (h_f13 : (∀ i : Nat, (-1) ≤ f13 i ∧ f13 i ≤ 13)) (h_f14 : (∀ i : Nat, (-1) ≤ f14 i ∧ f14 i ≤ 13)) (h_f15 : (∀ i : Nat, (-1) ≤ f15 i ∧ f15 i ≤ 3)) (h_f16 : (∀ i : Nat, 0 ≤ f16 i ∧ f16 i ≤ 13)) (hx_0 : (∀ k : Nat, k < 71 → f2 k = zTab k)) : zw (fn_X12_readsStatement p1 v0_5 v0_6 v0_7 v0_8 v0_9 v0_11 w0_28 f1 f2 f3 f4 f5 f6 f7 f8 f9 f10 f11 f12 f13 f14 f15 f16 f17 f18) (fun r => 0 ≤ r.2.1 ∧ r.2.1 ≤ 1200 ∧ 0 ≤ r.2.2.1 ∧ r.2.2.1 ≤ 1200 ∧ 0 ≤ r.2.2.2.1 ∧ r.2.2.2.1 ≤ 4 ∧ (∀ i : Nat, 0 ≤ r.2.2.2.2.2.1 i ∧ r.2.2.2.2.2.1 i ≤ 4) ∧ (∀ i : Nat, 0 ≤ r.2.2.2.2.2.2.1 i ∧ r.2.2.2.2.2.2.1 i ≤ 14) ∧ (∀ i : Nat, (-1) ≤ r.2.2.2.2.2.2.2.2.2.2.2.2.2.2.2.1 i ∧ r.2.2.2.2.2.2.2.2.2.2.2.2.2.2.2.1 i ≤ 13) ∧ (∀ i : Nat, (-1) ≤ r.2.2.2.2.2.2.2.2.2.2.2.2.2.2.2.2.1 i ∧ r.2.2.2.2.2.2.2.2.2.2.2.2.2.2.2.2.1 i ≤ 13) ∧ (∀ i : Nat, (-1) ≤ r.2.2.2.2.2.2.2.2.2.2.2.2.2.2.2.2.2.1 i ∧ r.2.2.2.2.2.2.2.2.2.2.2.2.2.2.2.2.2.1 i ≤ 3) ∧ (∀ i : Nat, 0 ≤ r.2.2.2.2.2.2.2.2.2.2.2.2.2.2.2.2.2.2.1 i ∧ r.2.2.2.2.2.2.2.2.2.2.2.2.2.2.2.2.2.2.1 i ≤ 13) ∧ v0_6 ≤ r.2.1 ∧ v0_8 ≤ r.2.2.2.1 ∧ (∀ i : Nat, r.2.2.2.2.2.2.2.2.2.1 i = f7 i ∨ 1 ≤ r.2.2.2.2.2.2.2.2.2.1 i) ∧ (∀ x : Int32, 0 ≤ x → x < r.2.2.2.2.2.1 v0_11.toNatClampNeg → x < f3 v0_11.toNatClampNeg ∨ 1 ≤ r.2.2.2.2.2.2.2.2.2.1 (4 + x).toNatClampNeg) ∧ (∀ x : Int32, 0 ≤ x → x < 4 → r.2.2.2.2.2.2.2.2.2.1 x.toNatClampNeg = f7 x.toNatClampNeg) ∧ (∀ i : Nat, r.2.2.2.2.2.2.2.2.2.2.2.2.2.2.2.2.2.1 i = f15 i ∨ r.2.2.2.2.2.2.2.2.2.2.2.2.2.2.2.2.2.1 i = (-1) ∨ 0 ≤ r.2.2.2.2.2.2.2.2.2.2.2.2.2.2.2.2.2.1 i ∧ r.2.2.2.2.2.2.2.2.2.2.2.2.2.2.2.2.2.1 i < f3 v0_11.toNatClampNeg) ∧ (∀ k : Int32, 0 ≤ k → k < r.2.2.2.2.2.2.1 v0_11.toNatClampNeg → k < f4 v0_11.toNatClampNeg ∨ r.2.2.2.2.2.2.2.2.2.2.2.2.2.2.2.2.2.1 (14 + k).toNatClampNeg = (-1)) ∧ (p1 = 40 → ¬ r.2.2.2.1 = 0) ∧ r.2.2.2.2.2.1 (0 : Int32).toNatClampNeg = f3 (0 : Int32).toNatClampNeg ∧ r.2.2.2.2.2.2.1 (0 : Int32).toNatClampNeg = f4 (0 : Int32).toNatClampNeg) := by
  unfold fn_X12_readsStatement
  refine zw_zb0 (sf_X12_word v0_5 v0_6 v0_7 v0_8 v0_9 f1 (by first | with_reducible assumption | exact ⟨by with_reducible assumption, by with_reducible assumption⟩ | first | lia | grind [zu_at, zu_atL, zvn]) (by first | with_reducible assumption | exact ⟨by with_reducible assumption, by with_reducible assumption⟩ | first | lia | grind [zu_at, zu_atL, zvn]) (by first | with_reducible assumption | exact ⟨by with_reducible assumption, by with_reducible assumption⟩ | first | lia | grind [zu_at, zu_atL, zvn]) (by first | with_reducible assumption | exact ⟨by with_reducible assumption, by with_reducible assumption⟩ | first | lia | grind [zu_at, zu_atL, zvn]) (by first | with_reducible assumption | exact ⟨by with_reducible assumption, by with_reducible assumption⟩ | first | lia | grind [zu_at, zu_atL, zvn])) (fun o_1 ho_1 => ?_)
  obtain ⟨o_1_0, o_1_1, o_1_2, o_1_3⟩ := o_1
  try dsimp only at ho_1
  obtain ⟨ho_1_0, ho_1_1, ho_1_2, ho_1_3, ho_1_4, ho_1_5, ho_1_6, ho_1_7⟩ := ho_1
  refine zw_zb0 (sf_X12_goesWell o_1_2 (by first | with_reducible assumption | exact ⟨by with_reducible assumption, by with_reducible assumption⟩ | first | lia | grind [zu_at, zu_atL, zvn])) (fun o_5 ho_5 => ?_)
  obtain ⟨ho_5_0, ho_5_1, ho_5_2, ho_5_3, ho_5_4, ho_5_5⟩ := ho_5
  refine zw_zj (fun s_9 => (-1) ≤ s_9 ∧ s_9 ≤ 12) (fun s_9 Hj_9 => ?_) (fun j_9 hj_9 => ?_)
  · obtain ⟨Hj_9_0, Hj_9_1⟩ := Hj_9
    refine zw_zb0 (sf_X12_goesWell o_1_2 (by first | with_reducible assumption | exact ⟨by with_reducible assumption, by with_reducible assumption⟩ | ((try clear hj_9); first | lia | grind [zu_at, zu_atL, zvn]))) (fun o_10 ho_10 => ?_)
    obtain ⟨ho_10_0, ho_10_1, ho_10_2, ho_10_3, ho_10_4, ho_10_5⟩ := ho_10
    refine zw_zj (fun s_14 => 0 ≤ s_14.1 ∧ s_14.1 ≤ 4 ∧ v0_8 ≤ s_14.1 ∧ o_1_2 ≤ s_14.1) (fun s_14 Hj_14 => ?_) (fun j_14 hj_14 => ?_)
    · obtain ⟨s_14_0, s_14_1⟩ := s_14
      try dsimp only at Hj_14
      obtain ⟨Hj_14_0, Hj_14_1, Hj_14_2, Hj_14_3⟩ := Hj_14
      refine zw_zj (fun s_15 => (s_15 = 0 → ¬ p1 = 40 ∧ (s_9 = 0 → f3 v0_11.toNatClampNeg ≤ 3) ∧ (s_9 = 5 ∨ s_9 = 6 → f4 v0_11.toNatClampNeg ≤ 13)) ∧ 0 ≤ s_15 ∧ s_15 ≤ 1) (fun s_15 Hj_15 => ?_) (fun j_15 hj_15 => ?_)
      · obtain ⟨Hj_15_0, Hj_15_1, Hj_15_2⟩ := Hj_15
        refine zw_zb0 (sf_X12_goesWell s_14_0 (by first | with_reducible assumption | exact ⟨by with_reducible assumption, by with_reducible assumption⟩ | ((try clear hj_9); (try clear hj_14); (try clear hj_15); first | lia | grind [zu_at, zu_atL, zvn]))) (fun o_16 ho_16 => ?_)
        obtain ⟨ho_16_0, ho_16_1, ho_16_2, ho_16_3, ho_16_4, ho_16_5⟩ := ho_16
        refine zw_zj (fun s_20 => (s_20.1 = 0 → s_15 = 0) ∧ 0 ≤ s_20.1 ∧ s_20.1 ≤ 4 ∧ s_15 ≤ s_20.1 ∧ v0_8 ≤ s_20.1 ∧ s_14_0 ≤ s_20.1) (fun s_20 Hj_20 => ?_) (fun j_20 hj_20 => ?_)
        · obtain ⟨s_20_0, s_20_1⟩ := s_20
          try dsimp only at Hj_20
          obtain ⟨Hj_20_0, Hj_20_1, Hj_20_2, Hj_20_3, Hj_20_4, Hj_20_5⟩ := Hj_20
          refine zw_zb0 (sf_X12_goesWell s_20_0 (by first | with_reducible assumption | exact ⟨by with_reducible assumption, by with_reducible assumption⟩ | ((try clear hj_9); (try clear hj_14); (try clear hj_15); (try clear hj_20); first | lia | grind [zu_at, zu_atL, zvn]))) (fun o_21 ho_21 => ?_)
          obtain ⟨ho_21_0, ho_21_1, ho_21_2, ho_21_3, ho_21_4, ho_21_5⟩ := ho_21
          refine zw_if (fun c1 => ?_) (fun c1 => ?_)
          · refine zw_some ?_
            first | exact True.intro | ((try dsimp only); (repeat' apply And.intro) <;> first | with_reducible assumption | with_reducible exact fun _ => Or.inl rfl | with_reducible exact fun _ _ _ => rfl | with_reducible exact fun _ _ h => Or.inl h | with_reducible rfl | ((with_reducible refine zU7 ?_ ⟨?_, ?_⟩) <;> first | with_reducible assumption | lia) | ((with_reducible refine zU1 ?_) <;> grind [z32_in]) | with_reducible exact zU1m | ((with_reducible refine zU4 ?_) <;> ((try clear hj_9); (try clear hj_14); (try clear hj_15); (try clear hj_20); lia)) | ((with_reducible refine zU2 (h_f3 _) ?_ ?_) <;> first | lia | grind [z32_in]) | ((with_reducible refine zU3 ?_) <;> ((try clear hj_9); (try clear hj_14); (try clear hj_15); (try clear hj_20); lia)) | ((with_reducible refine zU5 (h_f5 _) ?_) <;> with_reducible assumption) | ((with_reducible refine zU6 ?_) <;> ((try clear hj_9); (try clear hj_14); (try clear hj_15); (try clear hj_20); lia)) | ((with_reducible refine zU8 ⟨?_, ?_⟩) <;> ((try clear hj_9); (try clear hj_14); (try clear hj_15); (try clear hj_20); first | lia | grind)) | ((with_reducible refine zO1 ?_) <;> with_reducible assumption) | ((with_reducible refine zO2 ?_) <;> with_reducible assumption) | ((try clear hj_9); (try clear hj_14); (try clear hj_15); (try clear hj_20); first | lia | grind [zu_at, zu_atL, zvn]))
          refine zw_if (fun c2 => ?_) (fun c2 => ?_)
          · refine zw_zb0 (sf_X12_readsFormat v0_5 o_1_0 o_1_1 s_20_0 s_20_1 v0_11 f1 f2 f3 f5 f4 f6 f7 f8 f9 (by first | with_reducible assumption | exact ⟨by with_reducible assumption, by with_reducible assumption⟩ | ((try clear hj_9); (try clear hj_14); (try clear hj_15); (try clear hj_20); first | lia | grind [zu_at, zu_atL, zvn])) (by first | with_reducible assumption | exact ⟨by with_reducible assumption, by with_reducible assumption⟩ | ((try clear hj_9); (try clear hj_14); (try clear hj_15); (try clear hj_20); first | lia | grind [zu_at, zu_atL, zvn])) (by first | with_reducible assumption | exact ⟨by with_reducible assumption, by with_reducible assumption⟩ | ((try clear hj_9); (try clear hj_14); (try clear hj_15); (try clear hj_20); first | lia | grind [zu_at, zu_atL, zvn])) (by first | with_reducible assumption | exact ⟨by with_reducible assumption, by with_reducible assumption⟩ | ((try clear hj_9); (try clear hj_14); (try clear hj_15); (try clear hj_20); first | lia | grind [zu_at, zu_atL, zvn])) (by first | with_reducible assumption | exact ⟨by with_reducible assumption, by with_reducible assumption⟩ | ((try clear hj_9); (try clear hj_14); (try clear hj_15); (try clear hj_20); first | lia | grind [zu_at, zu_atL, zvn])) (by first | with_reducible assumption | exact ⟨by with_reducible assumption, by with_reducible assumption⟩ | ((try clear hj_9); (try clear hj_14); (try clear hj_15); (try clear hj_20); first | lia | grind [zu_at, zu_atL, zvn])) (by first | with_reducible assumption | exact ⟨by with_reducible assumption, by with_reducible assumption⟩ | ((try clear hj_9); (try clear hj_14); (try clear hj_15); (try clear hj_20); first | lia | grind [zu_at, zu_atL, zvn])) (by first | with_reducible assumption | exact ⟨by with_reducible assumption, by with_reducible assumption⟩ | ((try clear hj_9); (try clear hj_14); (try clear hj_15); (try clear hj_20); first | lia | grind [zu_at, zu_atL, zvn])) (by first | with_reducible assumption | exact ⟨by with_reducible assumption, by with_reducible assumption⟩ | ((try clear hj_9); (try clear hj_14); (try clear hj_15); (try clear hj_20); first | lia | grind [zu_at, zu_atL, zvn])) (by first | with_reducible assumption | exact ⟨by with_reducible assumption, by with_reducible assumption⟩ | ((try clear hj_9); (try clear hj_14); (try clear hj_15); (try clear hj_20); first | lia | grind [zu_at, zu_atL, zvn]))) (fun o_27 ho_27 => ?_)
            obtain ⟨o_27_0, o_27_1, o_27_2, o_27_3, o_27_4, o_27_5, o_27_6, o_27_7, o_27_8⟩ := o_27
            try dsimp only at ho_27
            obtain ⟨ho_27_0, ho_27_1, ho_27_2, ho_27_3, ho_27_4, ho_27_5, ho_27_6, ho_27_7, ho_27_8, ho_27_9, ho_27_10, ho_27_11, ho_27_12⟩ := ho_27
            refine zw_zb0 (sf_X12_mark 59 v0_5 o_27_0 o_27_2 o_27_3 f1 (by first | with_reducible assumption | exact ⟨by with_reducible assumption, by with_reducible assumption⟩ | ((try clear hj_9); (try clear hj_14); (try clear hj_15); (try clear hj_20); first | lia | grind [zu_at, zu_atL, zvn])) (by first | with_reducible assumption | exact ⟨by with_reducible assumption, by with_reducible assumption⟩ | ((try clear hj_9); (try clear hj_14); (try clear hj_15); (try clear hj_20); first | lia | grind [zu_at, zu_atL, zvn])) (by first | with_reducible assumption | exact ⟨by with_reducible assumption, by with_reducible assumption⟩ | ((try clear hj_9); (try clear hj_14); (try clear hj_15); (try clear hj_20); first | lia | grind [zu_at, zu_atL, zvn])) (by first | with_reducible assumption | exact ⟨by with_reducible assumption, by with_reducible assumption⟩ | ((try clear hj_9); (try clear hj_14); (try clear hj_15); (try clear hj_20); first | lia | grind [zu_at, zu_atL, zvn])) (by first | with_reducible assumption | exact ⟨by with_reducible assumption, by with_reducible assumption⟩ | ((try clear hj_9); (try clear hj_14); (try clear hj_15); (try clear hj_20); first | lia | grind [zu_at, zu_atL, zvn]))) (fun o_31 ho_31 => ?_)
            obtain ⟨o_31_0, o_31_1, o_31_2⟩ := o_31
            try dsimp only at ho_31
            obtain ⟨ho_31_0, ho_31_1, ho_31_2, ho_31_3, ho_31_4, ho_31_5⟩ := ho_31
            refine zw_some ?_
            first | exact True.intro | ((try dsimp only); (repeat' apply And.intro) <;> first | with_reducible assumption | with_reducible exact fun _ => Or.inl rfl | with_reducible exact fun _ _ _ => rfl | with_reducible exact fun _ _ h => Or.inl h | with_reducible rfl | ((with_reducible refine zU7 ?_ ⟨?_, ?_⟩) <;> first | with_reducible assumption | lia) | ((with_reducible refine zU1 ?_) <;> grind [z32_in]) | with_reducible exact zU1m | ((with_reducible refine zU4 ?_) <;> ((try clear hj_9); (try clear hj_14); (try clear hj_15); (try clear hj_20); lia)) | ((with_reducible refine zU2 (h_f3 _) ?_ ?_) <;> first | lia | grind [z32_in]) | ((with_reducible refine zU3 ?_) <;> ((try clear hj_9); (try clear hj_14); (try clear hj_15); (try clear hj_20); lia)) | ((with_reducible refine zU5 (h_f5 _) ?_) <;> with_reducible assumption) | ((with_reducible refine zU6 ?_) <;> ((try clear hj_9); (try clear hj_14); (try clear hj_15); (try clear hj_20); lia)) | ((with_reducible refine zU8 ⟨?_, ?_⟩) <;> ((try clear hj_9); (try clear hj_14); (try clear hj_15); (try clear hj_20); first | lia | grind)) | ((with_reducible refine zO1 ?_) <;> with_reducible assumption) | ((with_reducible refine zO2 ?_) <;> with_reducible assumption) | ((try clear hj_9); (try clear hj_14); (try clear hj_15); (try clear hj_20); first | lia | grind [zu_at, zu_atL, zvn]))
          refine zw_if (fun c3 => ?_) (fun c3 => ?_)
          · refine zw_zb0 (sf_X12_readsAnswer v0_5 o_1_0 o_1_1 s_20_0 s_20_1 v0_11 f1 f2 f4 f6 f10 (by first | with_reducible assumption | exact ⟨by with_reducible assumption, by with_reducible assumption⟩ | ((try clear hj_9); (try clear hj_14); (try clear hj_15); (try clear hj_20); first | lia | grind [zu_at, zu_atL, zvn])) (by first | with_reducible assumption | exact ⟨by with_reducible assumption, by with_reducible assumption⟩ | ((try clear hj_9); (try clear hj_14); (try clear hj_15); (try clear hj_20); first | lia | grind [zu_at, zu_atL, zvn])) (by first | with_reducible assumption | exact ⟨by with_reducible assumption, by with_reducible assumption⟩ | ((try clear hj_9); (try clear hj_14); (try clear hj_15); (try clear hj_20); first | lia | grind [zu_at, zu_atL, zvn])) (by first | with_reducible assumption | exact ⟨by with_reducible assumption, by with_reducible assumption⟩ | ((try clear hj_9); (try clear hj_14); (try clear hj_15); (try clear hj_20); first | lia | grind [zu_at, zu_atL, zvn])) (by first | with_reducible assumption | exact ⟨by with_reducible assumption, by with_reducible assumption⟩ | ((try clear hj_9); (try clear hj_14); (try clear hj_15); (try clear hj_20); first | lia | grind [zu_at, zu_atL, zvn])) (by first | with_reducible assumption | exact ⟨by with_reducible assumption, by with_reducible assumption⟩ | ((try clear hj_9); (try clear hj_14); (try clear hj_15); (try clear hj_20); first | lia | grind [zu_at, zu_atL, zvn])) (by first | with_reducible assumption | exact ⟨by with_reducible assumption, by with_reducible assumption⟩ | ((try clear hj_9); (try clear hj_14); (try clear hj_15); (try clear hj_20); first | lia | grind [zu_at, zu_atL, zvn])) (by first | with_reducible assumption | exact ⟨by with_reducible assumption, by with_reducible assumption⟩ | ((try clear hj_9); (try clear hj_14); (try clear hj_15); (try clear hj_20); first | lia | grind [zu_at, zu_atL, zvn]))) (fun o_36 ho_36 => ?_)
            obtain ⟨o_36_0, o_36_1, o_36_2, o_36_3, o_36_4⟩ := o_36
            try dsimp only at ho_36
            obtain ⟨ho_36_0, ho_36_1, ho_36_2, ho_36_3, ho_36_4, ho_36_5, ho_36_6, ho_36_7⟩ := ho_36
            refine zw_zb0 (sf_X12_mark 59 v0_5 o_36_0 o_36_2 o_36_3 f1 (by first | with_reducible assumption | exact ⟨by with_reducible assumption, by with_reducible assumption⟩ | ((try clear hj_9); (try clear hj_14); (try clear hj_15); (try clear hj_20); first | lia | grind [zu_at, zu_atL, zvn])) (by first | with_reducible assumption | exact ⟨by with_reducible assumption, by with_reducible assumption⟩ | ((try clear hj_9); (try clear hj_14); (try clear hj_15); (try clear hj_20); first | lia | grind [zu_at, zu_atL, zvn])) (by first | with_reducible assumption | exact ⟨by with_reducible assumption, by with_reducible assumption⟩ | ((try clear hj_9); (try clear hj_14); (try clear hj_15); (try clear hj_20); first | lia | grind [zu_at, zu_atL, zvn])) (by first | with_reducible assumption | exact ⟨by with_reducible assumption, by with_reducible assumption⟩ | ((try clear hj_9); (try clear hj_14); (try clear hj_15); (try clear hj_20); first | lia | grind [zu_at, zu_atL, zvn])) (by first | with_reducible assumption | exact ⟨by with_reducible assumption, by with_reducible assumption⟩ | ((try clear hj_9); (try clear hj_14); (try clear hj_15); (try clear hj_20); first | lia | grind [zu_at, zu_atL, zvn]))) (fun o_40 ho_40 => ?_)
            obtain ⟨o_40_0, o_40_1, o_40_2⟩ := o_40
            try dsimp only at ho_40
            obtain ⟨ho_40_0, ho_40_1, ho_40_2, ho_40_3, ho_40_4, ho_40_5⟩ := ho_40
            refine zw_some ?_
            first | exact True.intro | ((try dsimp only); (repeat' apply And.intro) <;> first | with_reducible assumption | with_reducible exact fun _ => Or.inl rfl | with_reducible exact fun _ _ _ => rfl | with_reducible exact fun _ _ h => Or.inl h | with_reducible rfl | ((with_reducible refine zU7 ?_ ⟨?_, ?_⟩) <;> first | with_reducible assumption | lia) | ((with_reducible refine zU1 ?_) <;> grind [z32_in]) | with_reducible exact zU1m | ((with_reducible refine zU4 ?_) <;> ((try clear hj_9); (try clear hj_14); (try clear hj_15); (try clear hj_20); lia)) | ((with_reducible refine zU2 (h_f3 _) ?_ ?_) <;> first | lia | grind [z32_in]) | ((with_reducible refine zU3 ?_) <;> ((try clear hj_9); (try clear hj_14); (try clear hj_15); (try clear hj_20); lia)) | ((with_reducible refine zU5 (h_f5 _) ?_) <;> with_reducible assumption) | ((with_reducible refine zU6 ?_) <;> ((try clear hj_9); (try clear hj_14); (try clear hj_15); (try clear hj_20); lia)) | ((with_reducible refine zU8 ⟨?_, ?_⟩) <;> ((try clear hj_9); (try clear hj_14); (try clear hj_15); (try clear hj_20); first | lia | grind)) | ((with_reducible refine zO1 ?_) <;> with_reducible assumption) | ((with_reducible refine zO2 ?_) <;> with_reducible assumption) | ((try clear hj_9); (try clear hj_14); (try clear hj_15); (try clear hj_20); first | lia | grind [zu_at, zu_atL, zvn]))
          refine zw_if (fun c4 => ?_) (fun c4 => ?_)
          · refine zw_zb0 (sf_X12_readsAnswer v0_5 o_1_0 o_1_1 s_20_0 s_20_1 v0_11 f1 f2 f4 f6 f10 (by first | with_reducible assumption | exact ⟨by with_reducible assumption, by with_reducible assumption⟩ | ((try clear hj_9); (try clear hj_14); (try clear hj_15); (try clear hj_20); first | lia | grind [zu_at, zu_atL, zvn])) (by first | with_reducible assumption | exact ⟨by with_reducible assumption, by with_reducible assumption⟩ | ((try clear hj_9); (try clear hj_14); (try clear hj_15); (try clear hj_20); first | lia | grind [zu_at, zu_atL, zvn])) (by first | with_reducible assumption | exact ⟨by with_reducible assumption, by with_reducible assumption⟩ | ((try clear hj_9); (try clear hj_14); (try clear hj_15); (try clear hj_20); first | lia | grind [zu_at, zu_atL, zvn])) (by first | with_reducible assumption | exact ⟨by with_reducible assumption, by with_reducible assumption⟩ | ((try clear hj_9); (try clear hj_14); (try clear hj_15); (try clear hj_20); first | lia | grind [zu_at, zu_atL, zvn])) (by first | with_reducible assumption | exact ⟨by with_reducible assumption, by with_reducible assumption⟩ | ((try clear hj_9); (try clear hj_14); (try clear hj_15); (try clear hj_20); first | lia | grind [zu_at, zu_atL, zvn])) (by first | with_reducible assumption | exact ⟨by with_reducible assumption, by with_reducible assumption⟩ | ((try clear hj_9); (try clear hj_14); (try clear hj_15); (try clear hj_20); first | lia | grind [zu_at, zu_atL, zvn])) (by first | with_reducible assumption | exact ⟨by with_reducible assumption, by with_reducible assumption⟩ | ((try clear hj_9); (try clear hj_14); (try clear hj_15); (try clear hj_20); first | lia | grind [zu_at, zu_atL, zvn])) (by first | with_reducible assumption | exact ⟨by with_reducible assumption, by with_reducible assumption⟩ | ((try clear hj_9); (try clear hj_14); (try clear hj_15); (try clear hj_20); first | lia | grind [zu_at, zu_atL, zvn]))) (fun o_45 ho_45 => ?_)
            obtain ⟨o_45_0, o_45_1, o_45_2, o_45_3, o_45_4⟩ := o_45
            try dsimp only at ho_45
            obtain ⟨ho_45_0, ho_45_1, ho_45_2, ho_45_3, ho_45_4, ho_45_5, ho_45_6, ho_45_7⟩ := ho_45
            refine zw_zb0 (sf_X12_mark 59 v0_5 o_45_0 o_45_2 o_45_3 f1 (by first | with_reducible assumption | exact ⟨by with_reducible assumption, by with_reducible assumption⟩ | ((try clear hj_9); (try clear hj_14); (try clear hj_15); (try clear hj_20); first | lia | grind [zu_at, zu_atL, zvn])) (by first | with_reducible assumption | exact ⟨by with_reducible assumption, by with_reducible assumption⟩ | ((try clear hj_9); (try clear hj_14); (try clear hj_15); (try clear hj_20); first | lia | grind [zu_at, zu_atL, zvn])) (by first | with_reducible assumption | exact ⟨by with_reducible assumption, by with_reducible assumption⟩ | ((try clear hj_9); (try clear hj_14); (try clear hj_15); (try clear hj_20); first | lia | grind [zu_at, zu_atL, zvn])) (by first | with_reducible assumption | exact ⟨by with_reducible assumption, by with_reducible assumption⟩ | ((try clear hj_9); (try clear hj_14); (try clear hj_15); (try clear hj_20); first | lia | grind [zu_at, zu_atL, zvn])) (by first | with_reducible assumption | exact ⟨by with_reducible assumption, by with_reducible assumption⟩ | ((try clear hj_9); (try clear hj_14); (try clear hj_15); (try clear hj_20); first | lia | grind [zu_at, zu_atL, zvn]))) (fun o_49 ho_49 => ?_)
            obtain ⟨o_49_0, o_49_1, o_49_2⟩ := o_49
            try dsimp only at ho_49
            obtain ⟨ho_49_0, ho_49_1, ho_49_2, ho_49_3, ho_49_4, ho_49_5⟩ := ho_49
            refine zw_some ?_
            first | exact True.intro | ((try dsimp only); (repeat' apply And.intro) <;> first | with_reducible assumption | with_reducible exact fun _ => Or.inl rfl | with_reducible exact fun _ _ _ => rfl | with_reducible exact fun _ _ h => Or.inl h | with_reducible rfl | ((with_reducible refine zU7 ?_ ⟨?_, ?_⟩) <;> first | with_reducible assumption | lia) | ((with_reducible refine zU1 ?_) <;> grind [z32_in]) | with_reducible exact zU1m | ((with_reducible refine zU4 ?_) <;> ((try clear hj_9); (try clear hj_14); (try clear hj_15); (try clear hj_20); lia)) | ((with_reducible refine zU2 (h_f3 _) ?_ ?_) <;> first | lia | grind [z32_in]) | ((with_reducible refine zU3 ?_) <;> ((try clear hj_9); (try clear hj_14); (try clear hj_15); (try clear hj_20); lia)) | ((with_reducible refine zU5 (h_f5 _) ?_) <;> with_reducible assumption) | ((with_reducible refine zU6 ?_) <;> ((try clear hj_9); (try clear hj_14); (try clear hj_15); (try clear hj_20); lia)) | ((with_reducible refine zU8 ⟨?_, ?_⟩) <;> ((try clear hj_9); (try clear hj_14); (try clear hj_15); (try clear hj_20); first | lia | grind)) | ((with_reducible refine zO1 ?_) <;> with_reducible assumption) | ((with_reducible refine zO2 ?_) <;> with_reducible assumption) | ((try clear hj_9); (try clear hj_14); (try clear hj_15); (try clear hj_20); first | lia | grind [zu_at, zu_atL, zvn]))
          refine zw_if (fun c5 => ?_) (fun c5 => ?_)
          · refine zw_zb0 (sf_X12_readsAnswer v0_5 o_1_0 o_1_1 s_20_0 s_20_1 v0_11 f1 f2 f4 f6 f10 (by first | with_reducible assumption | exact ⟨by with_reducible assumption, by with_reducible assumption⟩ | ((try clear hj_9); (try clear hj_14); (try clear hj_15); (try clear hj_20); first | lia | grind [zu_at, zu_atL, zvn])) (by first | with_reducible assumption | exact ⟨by with_reducible assumption, by with_reducible assumption⟩ | ((try clear hj_9); (try clear hj_14); (try clear hj_15); (try clear hj_20); first | lia | grind [zu_at, zu_atL, zvn])) (by first | with_reducible assumption | exact ⟨by with_reducible assumption, by with_reducible assumption⟩ | ((try clear hj_9); (try clear hj_14); (try clear hj_15); (try clear hj_20); first | lia | grind [zu_at, zu_atL, zvn])) (by first | with_reducible assumption | exact ⟨by with_reducible assumption, by with_reducible assumption⟩ | ((try clear hj_9); (try clear hj_14); (try clear hj_15); (try clear hj_20); first | lia | grind [zu_at, zu_atL, zvn])) (by first | with_reducible assumption | exact ⟨by with_reducible assumption, by with_reducible assumption⟩ | ((try clear hj_9); (try clear hj_14); (try clear hj_15); (try clear hj_20); first | lia | grind [zu_at, zu_atL, zvn])) (by first | with_reducible assumption | exact ⟨by with_reducible assumption, by with_reducible assumption⟩ | ((try clear hj_9); (try clear hj_14); (try clear hj_15); (try clear hj_20); first | lia | grind [zu_at, zu_atL, zvn])) (by first | with_reducible assumption | exact ⟨by with_reducible assumption, by with_reducible assumption⟩ | ((try clear hj_9); (try clear hj_14); (try clear hj_15); (try clear hj_20); first | lia | grind [zu_at, zu_atL, zvn])) (by first | with_reducible assumption | exact ⟨by with_reducible assumption, by with_reducible assumption⟩ | ((try clear hj_9); (try clear hj_14); (try clear hj_15); (try clear hj_20); first | lia | grind [zu_at, zu_atL, zvn]))) (fun o_54 ho_54 => ?_)
            obtain ⟨o_54_0, o_54_1, o_54_2, o_54_3, o_54_4⟩ := o_54
            try dsimp only at ho_54
            obtain ⟨ho_54_0, ho_54_1, ho_54_2, ho_54_3, ho_54_4, ho_54_5, ho_54_6, ho_54_7⟩ := ho_54
            refine zw_zb0 (sf_X12_mark 59 v0_5 o_54_0 o_54_2 o_54_3 f1 (by first | with_reducible assumption | exact ⟨by with_reducible assumption, by with_reducible assumption⟩ | ((try clear hj_9); (try clear hj_14); (try clear hj_15); (try clear hj_20); first | lia | grind [zu_at, zu_atL, zvn])) (by first | with_reducible assumption | exact ⟨by with_reducible assumption, by with_reducible assumption⟩ | ((try clear hj_9); (try clear hj_14); (try clear hj_15); (try clear hj_20); first | lia | grind [zu_at, zu_atL, zvn])) (by first | with_reducible assumption | exact ⟨by with_reducible assumption, by with_reducible assumption⟩ | ((try clear hj_9); (try clear hj_14); (try clear hj_15); (try clear hj_20); first | lia | grind [zu_at, zu_atL, zvn])) (by first | with_reducible assumption | exact ⟨by with_reducible assumption, by with_reducible assumption⟩ | ((try clear hj_9); (try clear hj_14); (try clear hj_15); (try clear hj_20); first | lia | grind [zu_at, zu_atL, zvn])) (by first | with_reducible assumption | exact ⟨by with_reducible assumption, by with_reducible assumption⟩ | ((try clear hj_9); (try clear hj_14); (try clear hj_15); (try clear hj_20); first | lia | grind [zu_at, zu_atL, zvn]))) (fun o_58 ho_58 => ?_)
            obtain ⟨o_58_0, o_58_1, o_58_2⟩ := o_58
            try dsimp only at ho_58
            obtain ⟨ho_58_0, ho_58_1, ho_58_2, ho_58_3, ho_58_4, ho_58_5⟩ := ho_58
            refine zw_some ?_
            first | exact True.intro | ((try dsimp only); (repeat' apply And.intro) <;> first | with_reducible assumption | with_reducible exact fun _ => Or.inl rfl | with_reducible exact fun _ _ _ => rfl | with_reducible exact fun _ _ h => Or.inl h | with_reducible rfl | ((with_reducible refine zU7 ?_ ⟨?_, ?_⟩) <;> first | with_reducible assumption | lia) | ((with_reducible refine zU1 ?_) <;> grind [z32_in]) | with_reducible exact zU1m | ((with_reducible refine zU4 ?_) <;> ((try clear hj_9); (try clear hj_14); (try clear hj_15); (try clear hj_20); lia)) | ((with_reducible refine zU2 (h_f3 _) ?_ ?_) <;> first | lia | grind [z32_in]) | ((with_reducible refine zU3 ?_) <;> ((try clear hj_9); (try clear hj_14); (try clear hj_15); (try clear hj_20); lia)) | ((with_reducible refine zU5 (h_f5 _) ?_) <;> with_reducible assumption) | ((with_reducible refine zU6 ?_) <;> ((try clear hj_9); (try clear hj_14); (try clear hj_15); (try clear hj_20); lia)) | ((with_reducible refine zU8 ⟨?_, ?_⟩) <;> ((try clear hj_9); (try clear hj_14); (try clear hj_15); (try clear hj_20); first | lia | grind)) | ((with_reducible refine zO1 ?_) <;> with_reducible assumption) | ((with_reducible refine zO2 ?_) <;> with_reducible assumption) | ((try clear hj_9); (try clear hj_14); (try clear hj_15); (try clear hj_20); first | lia | grind [zu_at, zu_atL, zvn]))
          refine zw_if (fun c6 => ?_) (fun c6 => ?_)
          · refine zw_zb0 (sf_X12_number (0 : Int64) (999 : Int64) v0_5 o_1_0 o_1_1 s_20_0 s_20_1 f1 (by first | with_reducible assumption | exact ⟨by with_reducible assumption, by with_reducible assumption⟩ | ((try clear hj_9); (try clear hj_14); (try clear hj_15); (try clear hj_20); first | lia | grind [zu_at, zu_atL, zvn])) (by first | with_reducible assumption | exact ⟨by with_reducible assumption, by with_reducible assumption⟩ | ((try clear hj_9); (try clear hj_14); (try clear hj_15); (try clear hj_20); first | lia | grind [zu_at, zu_atL, zvn])) (by first | with_reducible assumption | exact ⟨by with_reducible assumption, by with_reducible assumption⟩ | ((try clear hj_9); (try clear hj_14); (try clear hj_15); (try clear hj_20); first | lia | grind [zu_at, zu_atL, zvn])) (by first | with_reducible assumption | exact ⟨by with_reducible assumption, by with_reducible assumption⟩ | ((try clear hj_9); (try clear hj_14); (try clear hj_15); (try clear hj_20); first | lia | grind [zu_at, zu_atL, zvn])) (by first | with_reducible assumption | exact ⟨by with_reducible assumption, by with_reducible assumption⟩ | ((try clear hj_9); (try clear hj_14); (try clear hj_15); (try clear hj_20); first | lia | grind [zu_at, zu_atL, zvn]))) (fun o_63 ho_63 => ?_)
            obtain ⟨o_63_0, o_63_1, o_63_2, o_63_3, o_63_4⟩ := o_63
            try dsimp only at ho_63
            obtain ⟨ho_63_0, ho_63_1, ho_63_2, ho_63_3, ho_63_4, ho_63_5, ho_63_6, ho_63_7, ho_63_8⟩ := ho_63
            refine zw_zb0 (sf_X12_goesWell o_63_3 (by first | with_reducible assumption | exact ⟨by with_reducible assumption, by with_reducible assumption⟩ | ((try clear hj_9); (try clear hj_14); (try clear hj_15); (try clear hj_20); first | lia | grind [zu_at, zu_atL, zvn]))) (fun o_67 ho_67 => ?_)
            obtain ⟨ho_67_0, ho_67_1, ho_67_2, ho_67_3, ho_67_4, ho_67_5⟩ := ho_67
            refine zw_if (fun c7 => ?_) (fun c7 => ?_)
            · refine zw_zg32 2 (by decide) (by (try dsimp only); ((try clear hj_9); (try clear hj_14); (try clear hj_15); (try clear hj_20); first | lia | grind [zu_at, zu_atL, zvn])) ?_
              refine zw_zb0 (sf_X12_mark 59 v0_5 o_63_1 o_63_3 o_63_4 f1 (by first | with_reducible assumption | exact ⟨by with_reducible assumption, by with_reducible assumption⟩ | ((try clear hj_9); (try clear hj_14); (try clear hj_15); (try clear hj_20); first | lia | grind [zu_at, zu_atL, zvn])) (by first | with_reducible assumption | exact ⟨by with_reducible assumption, by with_reducible assumption⟩ | ((try clear hj_9); (try clear hj_14); (try clear hj_15); (try clear hj_20); first | lia | grind [zu_at, zu_atL, zvn])) (by first | with_reducible assumption | exact ⟨by with_reducible assumption, by with_reducible assumption⟩ | ((try clear hj_9); (try clear hj_14); (try clear hj_15); (try clear hj_20); first | lia | grind [zu_at, zu_atL, zvn])) (by first | with_reducible assumption | exact ⟨by with_reducible assumption, by with_reducible assumption⟩ | ((try clear hj_9); (try clear hj_14); (try clear hj_15); (try clear hj_20); first | lia | grind [zu_at, zu_atL, zvn])) (by first | with_reducible assumption | exact ⟨by with_reducible assumption, by with_reducible assumption⟩ | ((try clear hj_9); (try clear hj_14); (try clear hj_15); (try clear hj_20); first | lia | grind [zu_at, zu_atL, zvn]))) (fun o_73 ho_73 => ?_)
              obtain ⟨o_73_0, o_73_1, o_73_2⟩ := o_73
              try dsimp only at ho_73
              obtain ⟨ho_73_0, ho_73_1, ho_73_2, ho_73_3, ho_73_4, ho_73_5⟩ := ho_73
              refine zw_some ?_
              first | exact True.intro | ((try dsimp only); (repeat' apply And.intro) <;> first | with_reducible assumption | with_reducible exact fun _ => Or.inl rfl | with_reducible exact fun _ _ _ => rfl | with_reducible exact fun _ _ h => Or.inl h | with_reducible rfl | ((with_reducible refine zU7 ?_ ⟨?_, ?_⟩) <;> first | with_reducible assumption | lia) | ((with_reducible refine zU1 ?_) <;> grind [z32_in]) | with_reducible exact zU1m | ((with_reducible refine zU4 ?_) <;> ((try clear hj_9); (try clear hj_14); (try clear hj_15); (try clear hj_20); lia)) | ((with_reducible refine zU2 (h_f3 _) ?_ ?_) <;> first | lia | grind [z32_in]) | ((with_reducible refine zU3 ?_) <;> ((try clear hj_9); (try clear hj_14); (try clear hj_15); (try clear hj_20); lia)) | ((with_reducible refine zU5 (h_f5 _) ?_) <;> with_reducible assumption) | ((with_reducible refine zU6 ?_) <;> ((try clear hj_9); (try clear hj_14); (try clear hj_15); (try clear hj_20); lia)) | ((with_reducible refine zU8 ⟨?_, ?_⟩) <;> ((try clear hj_9); (try clear hj_14); (try clear hj_15); (try clear hj_20); first | lia | grind)) | ((with_reducible refine zO1 ?_) <;> with_reducible assumption) | ((with_reducible refine zO2 ?_) <;> with_reducible assumption) | ((try clear hj_9); (try clear hj_14); (try clear hj_15); (try clear hj_20); first | lia | grind [zu_at, zu_atL, zvn]))
            refine zw_zg32 2 (by decide) (by (try dsimp only); ((try clear hj_9); (try clear hj_14); (try clear hj_15); (try clear hj_20); first | lia | grind [zu_at, zu_atL, zvn])) ?_
            refine zw_zb0 (sf_X12_mark 59 v0_5 o_63_1 o_63_3 o_63_4 f1 (by first | with_reducible assumption | exact ⟨by with_reducible assumption, by with_reducible assumption⟩ | ((try clear hj_9); (try clear hj_14); (try clear hj_15); (try clear hj_20); first | lia | grind [zu_at, zu_atL, zvn])) (by first | with_reducible assumption | exact ⟨by with_reducible assumption, by with_reducible assumption⟩ | ((try clear hj_9); (try clear hj_14); (try clear hj_15); (try clear hj_20); first | lia | grind [zu_at, zu_atL, zvn])) (by first | with_reducible assumption | exact ⟨by with_reducible assumption, by with_reducible assumption⟩ | ((try clear hj_9); (try clear hj_14); (try clear hj_15); (try clear hj_20); first | lia | grind [zu_at, zu_atL, zvn])) (by first | with_reducible assumption | exact ⟨by with_reducible assumption, by with_reducible assumption⟩ | ((try clear hj_9); (try clear hj_14); (try clear hj_15); (try clear hj_20); first | lia | grind [zu_at, zu_atL, zvn])) (by first | with_reducible assumption | exact ⟨by with_reducible assumption, by with_reducible assumption⟩ | ((try clear hj_9); (try clear hj_14); (try clear hj_15); (try clear hj_20); first | lia | grind [zu_at, zu_atL, zvn]))) (fun o_78 ho_78 => ?_)
            obtain ⟨o_78_0, o_78_1, o_78_2⟩ := o_78
            try dsimp only at ho_78
            obtain ⟨ho_78_0, ho_78_1, ho_78_2, ho_78_3, ho_78_4, ho_78_5⟩ := ho_78
            refine zw_some ?_
            first | exact True.intro | ((try dsimp only); (repeat' apply And.intro) <;> first | with_reducible assumption | with_reducible exact fun _ => Or.inl rfl | with_reducible exact fun _ _ _ => rfl | with_reducible exact fun _ _ h => Or.inl h | with_reducible rfl | ((with_reducible refine zU7 ?_ ⟨?_, ?_⟩) <;> first | with_reducible assumption | lia) | ((with_reducible refine zU1 ?_) <;> grind [z32_in]) | with_reducible exact zU1m | ((with_reducible refine zU4 ?_) <;> ((try clear hj_9); (try clear hj_14); (try clear hj_15); (try clear hj_20); lia)) | ((with_reducible refine zU2 (h_f3 _) ?_ ?_) <;> first | lia | grind [z32_in]) | ((with_reducible refine zU3 ?_) <;> ((try clear hj_9); (try clear hj_14); (try clear hj_15); (try clear hj_20); lia)) | ((with_reducible refine zU5 (h_f5 _) ?_) <;> with_reducible assumption) | ((with_reducible refine zU6 ?_) <;> ((try clear hj_9); (try clear hj_14); (try clear hj_15); (try clear hj_20); lia)) | ((with_reducible refine zU8 ⟨?_, ?_⟩) <;> ((try clear hj_9); (try clear hj_14); (try clear hj_15); (try clear hj_20); first | lia | grind)) | ((with_reducible refine zO1 ?_) <;> with_reducible assumption) | ((with_reducible refine zO2 ?_) <;> with_reducible assumption) | ((try clear hj_9); (try clear hj_14); (try clear hj_15); (try clear hj_20); first | lia | grind [zu_at, zu_atL, zvn]))
          refine zw_if (fun c8 => ?_) (fun c8 => ?_)
          · refine zw_zb0 (sf_X12_readsInput v0_5 o_1_0 o_1_1 s_20_0 s_20_1 v0_11 f1 f2 f3 f5 f4 f6 f12 f13 f14 f15 f10 f16 f17 f18 (by first | with_reducible assumption | exact ⟨by with_reducible assumption, by with_reducible assumption⟩ | ((try clear hj_9); (try clear hj_14); (try clear hj_15); (try clear hj_20); first | lia | grind [zu_at, zu_atL, zvn])) (by first | with_reducible assumption | exact ⟨by with_reducible assumption, by with_reducible assumption⟩ | ((try clear hj_9); (try clear hj_14); (try clear hj_15); (try clear hj_20); first | lia | grind [zu_at, zu_atL, zvn])) (by first | with_reducible assumption | exact ⟨by with_reducible assumption, by with_reducible assumption⟩ | ((try clear hj_9); (try clear hj_14); (try clear hj_15); (try clear hj_20); first | lia | grind [zu_at, zu_atL, zvn])) (by first | with_reducible assumption | exact ⟨by with_reducible assumption, by with_reducible assumption⟩ | ((try clear hj_9); (try clear hj_14); (try clear hj_15); (try clear hj_20); first | lia | grind [zu_at, zu_atL, zvn])) (by first | with_reducible assumption | exact ⟨by with_reducible assumption, by with_reducible assumption⟩ | ((try clear hj_9); (try clear hj_14); (try clear hj_15); (try clear hj_20); first | lia | grind [zu_at, zu_atL, zvn])) (by first | with_reducible assumption | exact ⟨by with_reducible assumption, by with_reducible assumption⟩ | ((try clear hj_9); (try clear hj_14); (try clear hj_15); (try clear hj_20); first | lia | grind [zu_at, zu_atL, zvn])) (by first | with_reducible assumption | exact ⟨by with_reducible assumption, by with_reducible assumption⟩ | ((try clear hj_9); (try clear hj_14); (try clear hj_15); (try clear hj_20); first | lia | grind [zu_at, zu_atL, zvn])) (by first | with_reducible assumption | exact ⟨by with_reducible assumption, by with_reducible assumption⟩ | ((try clear hj_9); (try clear hj_14); (try clear hj_15); (try clear hj_20); first | lia | grind [zu_at, zu_atL, zvn])) (by first | with_reducible assumption | exact ⟨by with_reducible assumption, by with_reducible assumption⟩ | ((try clear hj_9); (try clear hj_14); (try clear hj_15); (try clear hj_20); first | lia | grind [zu_at, zu_atL, zvn])) (by first | with_reducible assumption | exact ⟨by with_reducible assumption, by with_reducible assumption⟩ | ((try clear hj_9); (try clear hj_14); (try clear hj_15); (try clear hj_20); first | lia | grind [zu_at, zu_atL, zvn])) (by first | with_reducible assumption | exact ⟨by with_reducible assumption, by with_reducible assumption⟩ | ((try clear hj_9); (try clear hj_14); (try clear hj_15); (try clear hj_20); first | lia | grind [zu_at, zu_atL, zvn])) (by first | with_reducible assumption | exact ⟨by with_reducible assumption, by with_reducible assumption⟩ | ((try clear hj_9); (try clear hj_14); (try clear hj_15); (try clear hj_20); first | lia | grind [zu_at, zu_atL, zvn])) (by first | with_reducible assumption | exact ⟨by with_reducible assumption, by with_reducible assumption⟩ | ((try clear hj_9); (try clear hj_14); (try clear hj_15); (try clear hj_20); first | lia | grind [zu_at, zu_atL, zvn])) (by first | with_reducible assumption | exact ⟨by with_reducible assumption, by with_reducible assumption⟩ | ((try clear hj_9); (try clear hj_14); (try clear hj_15); (try clear hj_20); first | lia | grind [zu_at, zu_atL, zvn]))) (fun o_83 ho_83 => ?_)
            obtain ⟨o_83_0, o_83_1, o_83_2, o_83_3, o_83_4, o_83_5, o_83_6, o_83_7, o_83_8, o_83_9, o_83_10, o_83_11, o_83_12, o_83_13⟩ := o_83
            try dsimp only at ho_83
            obtain ⟨ho_83_0, ho_83_1, ho_83_2, ho_83_3, ho_83_4, ho_83_5, ho_83_6, ho_83_7, ho_83_8, ho_83_9, ho_83_10, ho_83_11, ho_83_12, ho_83_13, ho_83_14, ho_83_15⟩ := ho_83
            refine zw_zb0 (sf_X12_mark 59 v0_5 o_83_0 o_83_2 o_83_3 f1 (by first | with_reducible assumption | exact ⟨by with_reducible assumption, by with_reducible assumption⟩ | ((try clear hj_9); (try clear hj_14); (try clear hj_15); (try clear hj_20); first | lia | grind [zu_at, zu_atL, zvn])) (by first | with_reducible assumption | exact ⟨by with_reducible assumption, by with_reducible assumption⟩ | ((try clear hj_9); (try clear hj_14); (try clear hj_15); (try clear hj_20); first | lia | grind [zu_at, zu_atL, zvn])) (by first | with_reducible assumption | exact ⟨by with_reducible assumption, by with_reducible assumption⟩ | ((try clear hj_9); (try clear hj_14); (try clear hj_15); (try clear hj_20); first | lia | grind [zu_at, zu_atL, zvn])) (by first | with_reducible assumption | exact ⟨by with_reducible assumption, by with_reducible assumption⟩ | ((try clear hj_9); (try clear hj_14); (try clear hj_15); (try clear hj_20); first | lia | grind [zu_at, zu_atL, zvn])) (by first | with_reducible assumption | exact ⟨by with_reducible assumption, by with_reducible assumption⟩ | ((try clear hj_9); (try clear hj_14); (try clear hj_15); (try clear hj_20); first | lia | grind [zu_at, zu_atL, zvn]))) (fun o_87 ho_87 => ?_)
            obtain ⟨o_87_0, o_87_1, o_87_2⟩ := o_87
            try dsimp only at ho_87
            obtain ⟨ho_87_0, ho_87_1, ho_87_2, ho_87_3, ho_87_4, ho_87_5⟩ := ho_87
            refine zw_some ?_
            first | exact True.intro | ((try dsimp only); (repeat' apply And.intro) <;> first | with_reducible assumption | with_reducible exact fun _ => Or.inl rfl | with_reducible exact fun _ _ _ => rfl | with_reducible exact fun _ _ h => Or.inl h | with_reducible rfl | ((with_reducible refine zU7 ?_ ⟨?_, ?_⟩) <;> first | with_reducible assumption | lia) | ((with_reducible refine zU1 ?_) <;> grind [z32_in]) | with_reducible exact zU1m | ((with_reducible refine zU4 ?_) <;> ((try clear hj_9); (try clear hj_14); (try clear hj_15); (try clear hj_20); lia)) | ((with_reducible refine zU2 (h_f3 _) ?_ ?_) <;> first | lia | grind [z32_in]) | ((with_reducible refine zU3 ?_) <;> ((try clear hj_9); (try clear hj_14); (try clear hj_15); (try clear hj_20); lia)) | ((with_reducible refine zU5 (h_f5 _) ?_) <;> with_reducible assumption) | ((with_reducible refine zU6 ?_) <;> ((try clear hj_9); (try clear hj_14); (try clear hj_15); (try clear hj_20); lia)) | ((with_reducible refine zU8 ⟨?_, ?_⟩) <;> ((try clear hj_9); (try clear hj_14); (try clear hj_15); (try clear hj_20); first | lia | grind)) | ((with_reducible refine zO1 ?_) <;> with_reducible assumption) | ((with_reducible refine zO2 ?_) <;> with_reducible assumption) | ((try clear hj_9); (try clear hj_14); (try clear hj_15); (try clear hj_20); first | lia | grind [zu_at, zu_atL, zvn]))
          refine zw_if (fun c9 => ?_) (fun c9 => ?_)
          · refine zw_zb0 (sf_X12_readsLet v0_5 o_1_0 o_1_1 s_20_0 s_20_1 v0_11 f1 f2 f3 f5 f4 f6 f12 f13 f14 f15 f10 f16 f17 f18 (by first | with_reducible assumption | exact ⟨by with_reducible assumption, by with_reducible assumption⟩ | ((try clear hj_9); (try clear hj_14); (try clear hj_15); (try clear hj_20); first | lia | grind [zu_at, zu_atL, zvn])) (by first | with_reducible assumption | exact ⟨by with_reducible assumption, by with_reducible assumption⟩ | ((try clear hj_9); (try clear hj_14); (try clear hj_15); (try clear hj_20); first | lia | grind [zu_at, zu_atL, zvn])) (by first | with_reducible assumption | exact ⟨by with_reducible assumption, by with_reducible assumption⟩ | ((try clear hj_9); (try clear hj_14); (try clear hj_15); (try clear hj_20); first | lia | grind [zu_at, zu_atL, zvn])) (by first | with_reducible assumption | exact ⟨by with_reducible assumption, by with_reducible assumption⟩ | ((try clear hj_9); (try clear hj_14); (try clear hj_15); (try clear hj_20); first | lia | grind [zu_at, zu_atL, zvn])) (by first | with_reducible assumption | exact ⟨by with_reducible assumption, by with_reducible assumption⟩ | ((try clear hj_9); (try clear hj_14); (try clear hj_15); (try clear hj_20); first | lia | grind [zu_at, zu_atL, zvn])) (by first | with_reducible assumption | exact ⟨by with_reducible assumption, by with_reducible assumption⟩ | ((try clear hj_9); (try clear hj_14); (try clear hj_15); (try clear hj_20); first | lia | grind [zu_at, zu_atL, zvn])) (by first | with_reducible assumption | exact ⟨by with_reducible assumption, by with_reducible assumption⟩ | ((try clear hj_9); (try clear hj_14); (try clear hj_15); (try clear hj_20); first | lia | grind [zu_at, zu_atL, zvn])) (by first | with_reducible assumption | exact ⟨by with_reducible assumption, by with_reducible assumption⟩ | ((try clear hj_9); (try clear hj_14); (try clear hj_15); (try clear hj_20); first | lia | grind [zu_at, zu_atL, zvn])) (by first | with_reducible assumption | exact ⟨by with_reducible assumption, by with_reducible assumption⟩ | ((try clear hj_9); (try clear hj_14); (try clear hj_15); (try clear hj_20); first | lia | grind [zu_at, zu_atL, zvn])) (by first | with_reducible assumption | exact ⟨by with_reducible assumption, by with_reducible assumption⟩ | ((try clear hj_9); (try clear hj_14); (try clear hj_15); (try clear hj_20); first | lia | grind [zu_at, zu_atL, zvn])) (by first | with_reducible assumption | exact ⟨by with_reducible assumption, by with_reducible assumption⟩ | ((try clear hj_9); (try clear hj_14); (try clear hj_15); (try clear hj_20); first | lia | grind [zu_at, zu_atL, zvn])) (by first | with_reducible assumption | exact ⟨by with_reducible assumption, by with_reducible assumption⟩ | ((try clear hj_9); (try clear hj_14); (try clear hj_15); (try clear hj_20); first | lia | grind [zu_at, zu_atL, zvn])) (by first | with_reducible assumption | exact ⟨by with_reducible assumption, by with_reducible assumption⟩ | ((try clear hj_9); (try clear hj_14); (try clear hj_15); (try clear hj_20); first | lia | grind [zu_at, zu_atL, zvn])) (by first | with_reducible assumption | exact ⟨by with_reducible assumption, by with_reducible assumption⟩ | ((try clear hj_9); (try clear hj_14); (try clear hj_15); (try clear hj_20); first | lia | grind [zu_at, zu_atL, zvn]))) (fun o_92 ho_92 => ?_)
            obtain ⟨o_92_0, o_92_1, o_92_2, o_92_3, o_92_4, o_92_5, o_92_6, o_92_7, o_92_8, o_92_9, o_92_10, o_92_11, o_92_12, o_92_13, o_92_14⟩ := o_92
            try dsimp only at ho_92
            obtain ⟨ho_92_0, ho_92_1, ho_92_2, ho_92_3, ho_92_4, ho_92_5, ho_92_6, ho_92_7, ho_92_8, ho_92_9, ho_92_10, ho_92_11, ho_92_12, ho_92_13, ho_92_14, ho_92_15⟩ := ho_92
            refine zw_zb0 (sf_X12_mark 59 v0_5 o_92_1 o_92_3 o_92_4 f1 (by first | with_reducible assumption | exact ⟨by with_reducible assumption, by with_reducible assumption⟩ | ((try clear hj_9); (try clear hj_14); (try clear hj_15); (try clear hj_20); first | lia | grind [zu_at, zu_atL, zvn])) (by first | with_reducible assumption | exact ⟨by with_reducible assumption, by with_reducible assumption⟩ | ((try clear hj_9); (try clear hj_14); (try clear hj_15); (try clear hj_20); first | lia | grind [zu_at, zu_atL, zvn])) (by first | with_reducible assumption | exact ⟨by with_reducible assumption, by with_reducible assumption⟩ | ((try clear hj_9); (try clear hj_14); (try clear hj_15); (try clear hj_20); first | lia | grind [zu_at, zu_atL, zvn])) (by first | with_reducible assumption | exact ⟨by with_reducible assumption, by with_reducible assumption⟩ | ((try clear hj_9); (try clear hj_14); (try clear hj_15); (try clear hj_20); first | lia | grind [zu_at, zu_atL, zvn])) (by first | with_reducible assumption | exact ⟨by with_reducible assumption, by with_reducible assumption⟩ | ((try clear hj_9); (try clear hj_14); (try clear hj_15); (try clear hj_20); first | lia | grind [zu_at, zu_atL, zvn]))) (fun o_96 ho_96 => ?_)
            obtain ⟨o_96_0, o_96_1, o_96_2⟩ := o_96
            try dsimp only at ho_96
            obtain ⟨ho_96_0, ho_96_1, ho_96_2, ho_96_3, ho_96_4, ho_96_5⟩ := ho_96
            refine zw_some ?_
            first | exact True.intro | ((try dsimp only); (repeat' apply And.intro) <;> first | with_reducible assumption | with_reducible exact fun _ => Or.inl rfl | with_reducible exact fun _ _ _ => rfl | with_reducible exact fun _ _ h => Or.inl h | with_reducible rfl | ((with_reducible refine zU7 ?_ ⟨?_, ?_⟩) <;> first | with_reducible assumption | lia) | ((with_reducible refine zU1 ?_) <;> grind [z32_in]) | with_reducible exact zU1m | ((with_reducible refine zU4 ?_) <;> ((try clear hj_9); (try clear hj_14); (try clear hj_15); (try clear hj_20); lia)) | ((with_reducible refine zU2 (h_f3 _) ?_ ?_) <;> first | lia | grind [z32_in]) | ((with_reducible refine zU3 ?_) <;> ((try clear hj_9); (try clear hj_14); (try clear hj_15); (try clear hj_20); lia)) | ((with_reducible refine zU5 (h_f5 _) ?_) <;> with_reducible assumption) | ((with_reducible refine zU6 ?_) <;> ((try clear hj_9); (try clear hj_14); (try clear hj_15); (try clear hj_20); lia)) | ((with_reducible refine zU8 ⟨?_, ?_⟩) <;> ((try clear hj_9); (try clear hj_14); (try clear hj_15); (try clear hj_20); first | lia | grind)) | ((with_reducible refine zO1 ?_) <;> with_reducible assumption) | ((with_reducible refine zO2 ?_) <;> with_reducible assumption) | ((try clear hj_9); (try clear hj_14); (try clear hj_15); (try clear hj_20); first | lia | grind [zu_at, zu_atL, zvn]))
          refine zw_if (fun c10 => ?_) (fun c10 => ?_)
          · refine zw_zb0 (sf_X12_readsAnswer v0_5 o_1_0 o_1_1 s_20_0 s_20_1 v0_11 f1 f2 f4 f6 f10 (by first | with_reducible assumption | exact ⟨by with_reducible assumption, by with_reducible assumption⟩ | ((try clear hj_9); (try clear hj_14); (try clear hj_15); (try clear hj_20); first | lia | grind [zu_at, zu_atL, zvn])) (by first | with_reducible assumption | exact ⟨by with_reducible assumption, by with_reducible assumption⟩ | ((try clear hj_9); (try clear hj_14); (try clear hj_15); (try clear hj_20); first | lia | grind [zu_at, zu_atL, zvn])) (by first | with_reducible assumption | exact ⟨by with_reducible assumption, by with_reducible assumption⟩ | ((try clear hj_9); (try clear hj_14); (try clear hj_15); (try clear hj_20); first | lia | grind [zu_at, zu_atL, zvn])) (by first | with_reducible assumption | exact ⟨by with_reducible assumption, by with_reducible assumption⟩ | ((try clear hj_9); (try clear hj_14); (try clear hj_15); (try clear hj_20); first | lia | grind [zu_at, zu_atL, zvn])) (by first | with_reducible assumption | exact ⟨by with_reducible assumption, by with_reducible assumption⟩ | ((try clear hj_9); (try clear hj_14); (try clear hj_15); (try clear hj_20); first | lia | grind [zu_at, zu_atL, zvn])) (by first | with_reducible assumption | exact ⟨by with_reducible assumption, by with_reducible assumption⟩ | ((try clear hj_9); (try clear hj_14); (try clear hj_15); (try clear hj_20); first | lia | grind [zu_at, zu_atL, zvn])) (by first | with_reducible assumption | exact ⟨by with_reducible assumption, by with_reducible assumption⟩ | ((try clear hj_9); (try clear hj_14); (try clear hj_15); (try clear hj_20); first | lia | grind [zu_at, zu_atL, zvn])) (by first | with_reducible assumption | exact ⟨by with_reducible assumption, by with_reducible assumption⟩ | ((try clear hj_9); (try clear hj_14); (try clear hj_15); (try clear hj_20); first | lia | grind [zu_at, zu_atL, zvn]))) (fun o_101 ho_101 => ?_)
            obtain ⟨o_101_0, o_101_1, o_101_2, o_101_3, o_101_4⟩ := o_101
            try dsimp only at ho_101
            obtain ⟨ho_101_0, ho_101_1, ho_101_2, ho_101_3, ho_101_4, ho_101_5, ho_101_6, ho_101_7⟩ := ho_101
            refine zw_zb0 (sf_X12_mark 59 v0_5 o_101_0 o_101_2 o_101_3 f1 (by first | with_reducible assumption | exact ⟨by with_reducible assumption, by with_reducible assumption⟩ | ((try clear hj_9); (try clear hj_14); (try clear hj_15); (try clear hj_20); first | lia | grind [zu_at, zu_atL, zvn])) (by first | with_reducible assumption | exact ⟨by with_reducible assumption, by with_reducible assumption⟩ | ((try clear hj_9); (try clear hj_14); (try clear hj_15); (try clear hj_20); first | lia | grind [zu_at, zu_atL, zvn])) (by first | with_reducible assumption | exact ⟨by with_reducible assumption, by with_reducible assumption⟩ | ((try clear hj_9); (try clear hj_14); (try clear hj_15); (try clear hj_20); first | lia | grind [zu_at, zu_atL, zvn])) (by first | with_reducible assumption | exact ⟨by with_reducible assumption, by with_reducible assumption⟩ | ((try clear hj_9); (try clear hj_14); (try clear hj_15); (try clear hj_20); first | lia | grind [zu_at, zu_atL, zvn])) (by first | with_reducible assumption | exact ⟨by with_reducible assumption, by with_reducible assumption⟩ | ((try clear hj_9); (try clear hj_14); (try clear hj_15); (try clear hj_20); first | lia | grind [zu_at, zu_atL, zvn]))) (fun o_105 ho_105 => ?_)
            obtain ⟨o_105_0, o_105_1, o_105_2⟩ := o_105
            try dsimp only at ho_105
            obtain ⟨ho_105_0, ho_105_1, ho_105_2, ho_105_3, ho_105_4, ho_105_5⟩ := ho_105
            refine zw_some ?_
            first | exact True.intro | ((try dsimp only); (repeat' apply And.intro) <;> first | with_reducible assumption | with_reducible exact fun _ => Or.inl rfl | with_reducible exact fun _ _ _ => rfl | with_reducible exact fun _ _ h => Or.inl h | with_reducible rfl | ((with_reducible refine zU7 ?_ ⟨?_, ?_⟩) <;> first | with_reducible assumption | lia) | ((with_reducible refine zU1 ?_) <;> grind [z32_in]) | with_reducible exact zU1m | ((with_reducible refine zU4 ?_) <;> ((try clear hj_9); (try clear hj_14); (try clear hj_15); (try clear hj_20); lia)) | ((with_reducible refine zU2 (h_f3 _) ?_ ?_) <;> first | lia | grind [z32_in]) | ((with_reducible refine zU3 ?_) <;> ((try clear hj_9); (try clear hj_14); (try clear hj_15); (try clear hj_20); lia)) | ((with_reducible refine zU5 (h_f5 _) ?_) <;> with_reducible assumption) | ((with_reducible refine zU6 ?_) <;> ((try clear hj_9); (try clear hj_14); (try clear hj_15); (try clear hj_20); lia)) | ((with_reducible refine zU8 ⟨?_, ?_⟩) <;> ((try clear hj_9); (try clear hj_14); (try clear hj_15); (try clear hj_20); first | lia | grind)) | ((with_reducible refine zO1 ?_) <;> with_reducible assumption) | ((with_reducible refine zO2 ?_) <;> with_reducible assumption) | ((try clear hj_9); (try clear hj_14); (try clear hj_15); (try clear hj_20); first | lia | grind [zu_at, zu_atL, zvn]))
          refine zw_if (fun c11 => ?_) (fun c11 => ?_)
          · refine zw_zb0 (sf_X12_readsAnswer v0_5 o_1_0 o_1_1 s_20_0 s_20_1 v0_11 f1 f2 f4 f6 f10 (by first | with_reducible assumption | exact ⟨by with_reducible assumption, by with_reducible assumption⟩ | ((try clear hj_9); (try clear hj_14); (try clear hj_15); (try clear hj_20); first | lia | grind [zu_at, zu_atL, zvn])) (by first | with_reducible assumption | exact ⟨by with_reducible assumption, by with_reducible assumption⟩ | ((try clear hj_9); (try clear hj_14); (try clear hj_15); (try clear hj_20); first | lia | grind [zu_at, zu_atL, zvn])) (by first | with_reducible assumption | exact ⟨by with_reducible assumption, by with_reducible assumption⟩ | ((try clear hj_9); (try clear hj_14); (try clear hj_15); (try clear hj_20); first | lia | grind [zu_at, zu_atL, zvn])) (by first | with_reducible assumption | exact ⟨by with_reducible assumption, by with_reducible assumption⟩ | ((try clear hj_9); (try clear hj_14); (try clear hj_15); (try clear hj_20); first | lia | grind [zu_at, zu_atL, zvn])) (by first | with_reducible assumption | exact ⟨by with_reducible assumption, by with_reducible assumption⟩ | ((try clear hj_9); (try clear hj_14); (try clear hj_15); (try clear hj_20); first | lia | grind [zu_at, zu_atL, zvn])) (by first | with_reducible assumption | exact ⟨by with_reducible assumption, by with_reducible assumption⟩ | ((try clear hj_9); (try clear hj_14); (try clear hj_15); (try clear hj_20); first | lia | grind [zu_at, zu_atL, zvn])) (by first | with_reducible assumption | exact ⟨by with_reducible assumption, by with_reducible assumption⟩ | ((try clear hj_9); (try clear hj_14); (try clear hj_15); (try clear hj_20); first | lia | grind [zu_at, zu_atL, zvn])) (by first | with_reducible assumption | exact ⟨by with_reducible assumption, by with_reducible assumption⟩ | ((try clear hj_9); (try clear hj_14); (try clear hj_15); (try clear hj_20); first | lia | grind [zu_at, zu_atL, zvn]))) (fun o_110 ho_110 => ?_)
            obtain ⟨o_110_0, o_110_1, o_110_2, o_110_3, o_110_4⟩ := o_110
            try dsimp only at ho_110
            obtain ⟨ho_110_0, ho_110_1, ho_110_2, ho_110_3, ho_110_4, ho_110_5, ho_110_6, ho_110_7⟩ := ho_110
            refine zw_zb0 (sf_X12_mark 59 v0_5 o_110_0 o_110_2 o_110_3 f1 (by first | with_reducible assumption | exact ⟨by with_reducible assumption, by with_reducible assumption⟩ | ((try clear hj_9); (try clear hj_14); (try clear hj_15); (try clear hj_20); first | lia | grind [zu_at, zu_atL, zvn])) (by first | with_reducible assumption | exact ⟨by with_reducible assumption, by with_reducible assumption⟩ | ((try clear hj_9); (try clear hj_14); (try clear hj_15); (try clear hj_20); first | lia | grind [zu_at, zu_atL, zvn])) (by first | with_reducible assumption | exact ⟨by with_reducible assumption, by with_reducible assumption⟩ | ((try clear hj_9); (try clear hj_14); (try clear hj_15); (try clear hj_20); first | lia | grind [zu_at, zu_atL, zvn])) (by first | with_reducible assumption | exact ⟨by with_reducible assumption, by with_reducible assumption⟩ | ((try clear hj_9); (try clear hj_14); (try clear hj_15); (try clear hj_20); first | lia | grind [zu_at, zu_atL, zvn])) (by first | with_reducible assumption | exact ⟨by with_reducible assumption, by with_reducible assumption⟩ | ((try clear hj_9); (try clear hj_14); (try clear hj_15); (try clear hj_20); first | lia | grind [zu_at, zu_atL, zvn]))) (fun o_114 ho_114 => ?_)
            obtain ⟨o_114_0, o_114_1, o_114_2⟩ := o_114
            try dsimp only at ho_114
            obtain ⟨ho_114_0, ho_114_1, ho_114_2, ho_114_3, ho_114_4, ho_114_5⟩ := ho_114
            refine zw_some ?_
            first | exact True.intro | ((try dsimp only); (repeat' apply And.intro) <;> first | with_reducible assumption | with_reducible exact fun _ => Or.inl rfl | with_reducible exact fun _ _ _ => rfl | with_reducible exact fun _ _ h => Or.inl h | with_reducible rfl | ((with_reducible refine zU7 ?_ ⟨?_, ?_⟩) <;> first | with_reducible assumption | lia) | ((with_reducible refine zU1 ?_) <;> grind [z32_in]) | with_reducible exact zU1m | ((with_reducible refine zU4 ?_) <;> ((try clear hj_9); (try clear hj_14); (try clear hj_15); (try clear hj_20); lia)) | ((with_reducible refine zU2 (h_f3 _) ?_ ?_) <;> first | lia | grind [z32_in]) | ((with_reducible refine zU3 ?_) <;> ((try clear hj_9); (try clear hj_14); (try clear hj_15); (try clear hj_20); lia)) | ((with_reducible refine zU5 (h_f5 _) ?_) <;> with_reducible assumption) | ((with_reducible refine zU6 ?_) <;> ((try clear hj_9); (try clear hj_14); (try clear hj_15); (try clear hj_20); lia)) | ((with_reducible refine zU8 ⟨?_, ?_⟩) <;> ((try clear hj_9); (try clear hj_14); (try clear hj_15); (try clear hj_20); first | lia | grind)) | ((with_reducible refine zO1 ?_) <;> with_reducible assumption) | ((with_reducible refine zO2 ?_) <;> with_reducible assumption) | ((try clear hj_9); (try clear hj_14); (try clear hj_15); (try clear hj_20); first | lia | grind [zu_at, zu_atL, zvn]))
          refine zw_if (fun c12 => ?_) (fun c12 => ?_)
          · refine zw_zb0 (sf_X12_readsFixed v0_5 o_1_0 o_1_1 s_20_0 s_20_1 v0_11 f1 f2 f4 f6 f3 f5 f15 (by first | with_reducible assumption | exact ⟨by with_reducible assumption, by with_reducible assumption⟩ | ((try clear hj_9); (try clear hj_14); (try clear hj_15); (try clear hj_20); first | lia | grind [zu_at, zu_atL, zvn])) (by first | with_reducible assumption | exact ⟨by with_reducible assumption, by with_reducible assumption⟩ | ((try clear hj_9); (try clear hj_14); (try clear hj_15); (try clear hj_20); first | lia | grind [zu_at, zu_atL, zvn])) (by first | with_reducible assumption | exact ⟨by with_reducible assumption, by with_reducible assumption⟩ | ((try clear hj_9); (try clear hj_14); (try clear hj_15); (try clear hj_20); first | lia | grind [zu_at, zu_atL, zvn])) (by first | with_reducible assumption | exact ⟨by with_reducible assumption, by with_reducible assumption⟩ | ((try clear hj_9); (try clear hj_14); (try clear hj_15); (try clear hj_20); first | lia | grind [zu_at, zu_atL, zvn])) (by first | with_reducible assumption | exact ⟨by with_reducible assumption, by with_reducible assumption⟩ | ((try clear hj_9); (try clear hj_14); (try clear hj_15); (try clear hj_20); first | lia | grind [zu_at, zu_atL, zvn])) (by first | with_reducible assumption | exact ⟨by with_reducible assumption, by with_reducible assumption⟩ | ((try clear hj_9); (try clear hj_14); (try clear hj_15); (try clear hj_20); first | lia | grind [zu_at, zu_atL, zvn])) (by first | with_reducible assumption | exact ⟨by with_reducible assumption, by with_reducible assumption⟩ | ((try clear hj_9); (try clear hj_14); (try clear hj_15); (try clear hj_20); first | lia | grind [zu_at, zu_atL, zvn])) (by first | with_reducible assumption | exact ⟨by with_reducible assumption, by with_reducible assumption⟩ | ((try clear hj_9); (try clear hj_14); (try clear hj_15); (try clear hj_20); first | lia | grind [zu_at, zu_atL, zvn])) (by first | with_reducible assumption | exact ⟨by with_reducible assumption, by with_reducible assumption⟩ | ((try clear hj_9); (try clear hj_14); (try clear hj_15); (try clear hj_20); first | lia | grind [zu_at, zu_atL, zvn])) (by first | with_reducible assumption | exact ⟨by with_reducible assumption, by with_reducible assumption⟩ | ((try clear hj_9); (try clear hj_14); (try clear hj_15); (try clear hj_20); first | lia | grind [zu_at, zu_atL, zvn]))) (fun o_119 ho_119 => ?_)
            obtain ⟨o_119_0, o_119_1, o_119_2, o_119_3, o_119_4⟩ := o_119
            try dsimp only at ho_119
            obtain ⟨ho_119_0, ho_119_1, ho_119_2, ho_119_3, ho_119_4, ho_119_5, ho_119_6, ho_119_7, ho_119_8, ho_119_9⟩ := ho_119
            refine zw_zb0 (sf_X12_mark 59 v0_5 o_119_0 o_119_2 o_119_3 f1 (by first | with_reducible assumption | exact ⟨by with_reducible assumption, by with_reducible assumption⟩ | ((try clear hj_9); (try clear hj_14); (try clear hj_15); (try clear hj_20); first | lia | grind [zu_at, zu_atL, zvn])) (by first | with_reducible assumption | exact ⟨by with_reducible assumption, by with_reducible assumption⟩ | ((try clear hj_9); (try clear hj_14); (try clear hj_15); (try clear hj_20); first | lia | grind [zu_at, zu_atL, zvn])) (by first | with_reducible assumption | exact ⟨by with_reducible assumption, by with_reducible assumption⟩ | ((try clear hj_9); (try clear hj_14); (try clear hj_15); (try clear hj_20); first | lia | grind [zu_at, zu_atL, zvn])) (by first | with_reducible assumption | exact ⟨by with_reducible assumption, by with_reducible assumption⟩ | ((try clear hj_9); (try clear hj_14); (try clear hj_15); (try clear hj_20); first | lia | grind [zu_at, zu_atL, zvn])) (by first | with_reducible assumption | exact ⟨by with_reducible assumption, by with_reducible assumption⟩ | ((try clear hj_9); (try clear hj_14); (try clear hj_15); (try clear hj_20); first | lia | grind [zu_at, zu_atL, zvn]))) (fun o_123 ho_123 => ?_)
            obtain ⟨o_123_0, o_123_1, o_123_2⟩ := o_123
            try dsimp only at ho_123
            obtain ⟨ho_123_0, ho_123_1, ho_123_2, ho_123_3, ho_123_4, ho_123_5⟩ := ho_123
            refine zw_some ?_
            first | exact True.intro | ((try dsimp only); (repeat' apply And.intro) <;> first | with_reducible assumption | with_reducible exact fun _ => Or.inl rfl | with_reducible exact fun _ _ _ => rfl | with_reducible exact fun _ _ h => Or.inl h | with_reducible rfl | ((with_reducible refine zU7 ?_ ⟨?_, ?_⟩) <;> first | with_reducible assumption | lia) | ((with_reducible refine zU1 ?_) <;> grind [z32_in]) | with_reducible exact zU1m | ((with_reducible refine zU4 ?_) <;> ((try clear hj_9); (try clear hj_14); (try clear hj_15); (try clear hj_20); lia)) | ((with_reducible refine zU2 (h_f3 _) ?_ ?_) <;> first | lia | grind [z32_in]) | ((with_reducible refine zU3 ?_) <;> ((try clear hj_9); (try clear hj_14); (try clear hj_15); (try clear hj_20); lia)) | ((with_reducible refine zU5 (h_f5 _) ?_) <;> with_reducible assumption) | ((with_reducible refine zU6 ?_) <;> ((try clear hj_9); (try clear hj_14); (try clear hj_15); (try clear hj_20); lia)) | ((with_reducible refine zU8 ⟨?_, ?_⟩) <;> ((try clear hj_9); (try clear hj_14); (try clear hj_15); (try clear hj_20); first | lia | grind)) | ((with_reducible refine zO1 ?_) <;> with_reducible assumption) | ((with_reducible refine zO2 ?_) <;> with_reducible assumption) | ((try clear hj_9); (try clear hj_14); (try clear hj_15); (try clear hj_20); first | lia | grind [zu_at, zu_atL, zvn]))
          refine zw_if (fun c13 => ?_) (fun c13 => ?_)
          · refine zw_zb0 (sf_X12_readsGroup v0_5 o_1_0 o_1_1 s_20_0 s_20_1 v0_11 f1 f2 f4 f6 f16 (by first | with_reducible assumption | exact ⟨by with_reducible assumption, by with_reducible assumption⟩ | ((try clear hj_9); (try clear hj_14); (try clear hj_15); (try clear hj_20); first | lia | grind [zu_at, zu_atL, zvn])) (by first | with_reducible assumption | exact ⟨by with_reducible assumption, by with_reducible assumption⟩ | ((try clear hj_9); (try clear hj_14); (try clear hj_15); (try clear hj_20); first | lia | grind [zu_at, zu_atL, zvn])) (by first | with_reducible assumption | exact ⟨by with_reducible assumption, by with_reducible assumption⟩ | ((try clear hj_9); (try clear hj_14); (try clear hj_15); (try clear hj_20); first | lia | grind [zu_at, zu_atL, zvn])) (by first | with_reducible assumption | exact ⟨by with_reducible assumption, by with_reducible assumption⟩ | ((try clear hj_9); (try clear hj_14); (try clear hj_15); (try clear hj_20); first | lia | grind [zu_at, zu_atL, zvn])) (by first | with_reducible assumption | exact ⟨by with_reducible assumption, by with_reducible assumption⟩ | ((try clear hj_9); (try clear hj_14); (try clear hj_15); (try clear hj_20); first | lia | grind [zu_at, zu_atL, zvn])) (by first | with_reducible assumption | exact ⟨by with_reducible assumption, by with_reducible assumption⟩ | ((try clear hj_9); (try clear hj_14); (try clear hj_15); (try clear hj_20); first | lia | grind [zu_at, zu_atL, zvn])) (by first | with_reducible assumption | exact ⟨by with_reducible assumption, by with_reducible assumption⟩ | ((try clear hj_9); (try clear hj_14); (try clear hj_15); (try clear hj_20); first | lia | grind [zu_at, zu_atL, zvn])) (by first | with_reducible assumption | exact ⟨by with_reducible assumption, by with_reducible assumption⟩ | ((try clear hj_9); (try clear hj_14); (try clear hj_15); (try clear hj_20); first | lia | grind [zu_at, zu_atL, zvn])) (by first | with_reducible assumption | exact ⟨by with_reducible assumption, by with_reducible assumption⟩ | ((try clear hj_9); (try clear hj_14); (try clear hj_15); (try clear hj_20); first | lia | grind [zu_at, zu_atL, zvn]))) (fun o_128 ho_128 => ?_)
            obtain ⟨o_128_0, o_128_1, o_128_2, o_128_3, o_128_4⟩ := o_128
            try dsimp only at ho_128
            obtain ⟨ho_128_0, ho_128_1, ho_128_2, ho_128_3, ho_128_4, ho_128_5, ho_128_6, ho_128_7, ho_128_8⟩ := ho_128
            refine zw_zb0 (sf_X12_mark 59 v0_5 o_128_0 o_128_2 o_128_3 f1 (by first | with_reducible assumption | exact ⟨by with_reducible assumption, by with_reducible assumption⟩ | ((try clear hj_9); (try clear hj_14); (try clear hj_15); (try clear hj_20); first | lia | grind [zu_at, zu_atL, zvn])) (by first | with_reducible assumption | exact ⟨by with_reducible assumption, by with_reducible assumption⟩ | ((try clear hj_9); (try clear hj_14); (try clear hj_15); (try clear hj_20); first | lia | grind [zu_at, zu_atL, zvn])) (by first | with_reducible assumption | exact ⟨by with_reducible assumption, by with_reducible assumption⟩ | ((try clear hj_9); (try clear hj_14); (try clear hj_15); (try clear hj_20); first | lia | grind [zu_at, zu_atL, zvn])) (by first | with_reducible assumption | exact ⟨by with_reducible assumption, by with_reducible assumption⟩ | ((try clear hj_9); (try clear hj_14); (try clear hj_15); (try clear hj_20); first | lia | grind [zu_at, zu_atL, zvn])) (by first | with_reducible assumption | exact ⟨by with_reducible assumption, by with_reducible assumption⟩ | ((try clear hj_9); (try clear hj_14); (try clear hj_15); (try clear hj_20); first | lia | grind [zu_at, zu_atL, zvn]))) (fun o_132 ho_132 => ?_)
            obtain ⟨o_132_0, o_132_1, o_132_2⟩ := o_132
            try dsimp only at ho_132
            obtain ⟨ho_132_0, ho_132_1, ho_132_2, ho_132_3, ho_132_4, ho_132_5⟩ := ho_132
            refine zw_some ?_
            first | exact True.intro | ((try dsimp only); (repeat' apply And.intro) <;> first | with_reducible assumption | with_reducible exact fun _ => Or.inl rfl | with_reducible exact fun _ _ _ => rfl | with_reducible exact fun _ _ h => Or.inl h | with_reducible rfl | ((with_reducible refine zU7 ?_ ⟨?_, ?_⟩) <;> first | with_reducible assumption | lia) | ((with_reducible refine zU1 ?_) <;> grind [z32_in]) | with_reducible exact zU1m | ((with_reducible refine zU4 ?_) <;> ((try clear hj_9); (try clear hj_14); (try clear hj_15); (try clear hj_20); lia)) | ((with_reducible refine zU2 (h_f3 _) ?_ ?_) <;> first | lia | grind [z32_in]) | ((with_reducible refine zU3 ?_) <;> ((try clear hj_9); (try clear hj_14); (try clear hj_15); (try clear hj_20); lia)) | ((with_reducible refine zU5 (h_f5 _) ?_) <;> with_reducible assumption) | ((with_reducible refine zU6 ?_) <;> ((try clear hj_9); (try clear hj_14); (try clear hj_15); (try clear hj_20); lia)) | ((with_reducible refine zU8 ⟨?_, ?_⟩) <;> ((try clear hj_9); (try clear hj_14); (try clear hj_15); (try clear hj_20); first | lia | grind)) | ((with_reducible refine zO1 ?_) <;> with_reducible assumption) | ((with_reducible refine zO2 ?_) <;> with_reducible assumption) | ((try clear hj_9); (try clear hj_14); (try clear hj_15); (try clear hj_20); first | lia | grind [zu_at, zu_atL, zvn]))
          refine zw_zb0 (sf_X12_readsAnswer v0_5 o_1_0 o_1_1 s_20_0 s_20_1 v0_11 f1 f2 f4 f6 f10 (by first | with_reducible assumption | exact ⟨by with_reducible assumption, by with_reducible assumption⟩ | ((try clear hj_9); (try clear hj_14); (try clear hj_15); (try clear hj_20); first | lia | grind [zu_at, zu_atL, zvn])) (by first | with_reducible assumption | exact ⟨by with_reducible assumption, by with_reducible assumption⟩ | ((try clear hj_9); (try clear hj_14); (try clear hj_15); (try clear hj_20); first | lia | grind [zu_at, zu_atL, zvn])) (by first | with_reducible assumption | exact ⟨by with_reducible assumption, by with_reducible assumption⟩ | ((try clear hj_9); (try clear hj_14); (try clear hj_15); (try clear hj_20); first | lia | grind [zu_at, zu_atL, zvn])) (by first | with_reducible assumption | exact ⟨by with_reducible assumption, by with_reducible assumption⟩ | ((try clear hj_9); (try clear hj_14); (try clear hj_15); (try clear hj_20); first | lia | grind [zu_at, zu_atL, zvn])) (by first | with_reducible assumption | exact ⟨by with_reducible assumption, by with_reducible assumption⟩ | ((try clear hj_9); (try clear hj_14); (try clear hj_15); (try clear hj_20); first | lia | grind [zu_at, zu_atL, zvn])) (by first | with_reducible assumption | exact ⟨by with_reducible assumption, by with_reducible assumption⟩ | ((try clear hj_9); (try clear hj_14); (try clear hj_15); (try clear hj_20); first | lia | grind [zu_at, zu_atL, zvn])) (by first | with_reducible assumption | exact ⟨by with_reducible assumption, by with_reducible assumption⟩ | ((try clear hj_9); (try clear hj_14); (try clear hj_15); (try clear hj_20); first | lia | grind [zu_at, zu_atL, zvn])) (by first | with_reducible assumption | exact ⟨by with_reducible assumption, by with_reducible assumption⟩ | ((try clear hj_9); (try clear hj_14); (try clear hj_15); (try clear hj_20); first | lia | grind [zu_at, zu_atL, zvn]))) (fun o_136 ho_136 => ?_)
          obtain ⟨o_136_0, o_136_1, o_136_2, o_136_3, o_136_4⟩ := o_136
          try dsimp only at ho_136
          obtain ⟨ho_136_0, ho_136_1, ho_136_2, ho_136_3, ho_136_4, ho_136_5, ho_136_6, ho_136_7⟩ := ho_136
          refine zw_zb0 (sf_X12_mark 59 v0_5 o_136_0 o_136_2 o_136_3 f1 (by first | with_reducible assumption | exact ⟨by with_reducible assumption, by with_reducible assumption⟩ | ((try clear hj_9); (try clear hj_14); (try clear hj_15); (try clear hj_20); first | lia | grind [zu_at, zu_atL, zvn])) (by first | with_reducible assumption | exact ⟨by with_reducible assumption, by with_reducible assumption⟩ | ((try clear hj_9); (try clear hj_14); (try clear hj_15); (try clear hj_20); first | lia | grind [zu_at, zu_atL, zvn])) (by first | with_reducible assumption | exact ⟨by with_reducible assumption, by with_reducible assumption⟩ | ((try clear hj_9); (try clear hj_14); (try clear hj_15); (try clear hj_20); first | lia | grind [zu_at, zu_atL, zvn])) (by first | with_reducible assumption | exact ⟨by with_reducible assumption, by with_reducible assumption⟩ | ((try clear hj_9); (try clear hj_14); (try clear hj_15); (try clear hj_20); first | lia | grind [zu_at, zu_atL, zvn])) (by first | with_reducible assumption | exact ⟨by with_reducible assumption, by with_reducible assumption⟩ | ((try clear hj_9); (try clear hj_14); (try clear hj_15); (try clear hj_20); first | lia | grind [zu_at, zu_atL, zvn]))) (fun o_140 ho_140 => ?_)
          obtain ⟨o_140_0, o_140_1, o_140_2⟩ := o_140
          try dsimp only at ho_140
          obtain ⟨ho_140_0, ho_140_1, ho_140_2, ho_140_3, ho_140_4, ho_140_5⟩ := ho_140
          refine zw_some ?_
          first | exact True.intro | ((try dsimp only); (repeat' apply And.intro) <;> first | with_reducible assumption | with_reducible exact fun _ => Or.inl rfl | with_reducible exact fun _ _ _ => rfl | with_reducible exact fun _ _ h => Or.inl h | with_reducible rfl | ((with_reducible refine zU7 ?_ ⟨?_, ?_⟩) <;> first | with_reducible assumption | lia) | ((with_reducible refine zU1 ?_) <;> grind [z32_in]) | with_reducible exact zU1m | ((with_reducible refine zU4 ?_) <;> ((try clear hj_9); (try clear hj_14); (try clear hj_15); (try clear hj_20); lia)) | ((with_reducible refine zU2 (h_f3 _) ?_ ?_) <;> first | lia | grind [z32_in]) | ((with_reducible refine zU3 ?_) <;> ((try clear hj_9); (try clear hj_14); (try clear hj_15); (try clear hj_20); lia)) | ((with_reducible refine zU5 (h_f5 _) ?_) <;> with_reducible assumption) | ((with_reducible refine zU6 ?_) <;> ((try clear hj_9); (try clear hj_14); (try clear hj_15); (try clear hj_20); lia)) | ((with_reducible refine zU8 ⟨?_, ?_⟩) <;> ((try clear hj_9); (try clear hj_14); (try clear hj_15); (try clear hj_20); first | lia | grind)) | ((with_reducible refine zO1 ?_) <;> with_reducible assumption) | ((with_reducible refine zO2 ?_) <;> with_reducible assumption) | ((try clear hj_9); (try clear hj_14); (try clear hj_15); (try clear hj_20); first | lia | grind [zu_at, zu_atL, zvn]))
        refine zw_if (fun c14 => ?_) (fun c14 => ?_)
        · exact hj_20 _ (by first | exact True.intro | ((try dsimp only); (repeat' apply And.intro) <;> first | with_reducible assumption | with_reducible exact fun _ => Or.inl rfl | with_reducible exact fun _ _ _ => rfl | with_reducible exact fun _ _ h => Or.inl h | with_reducible rfl | ((with_reducible refine zU7 ?_ ⟨?_, ?_⟩) <;> first | with_reducible assumption | lia) | ((with_reducible refine zU1 ?_) <;> grind [z32_in]) | with_reducible exact zU1m | ((with_reducible refine zU4 ?_) <;> ((try clear hj_9); (try clear hj_14); (try clear hj_15); (try clear hj_20); lia)) | ((with_reducible refine zU2 (h_f3 _) ?_ ?_) <;> first | lia | grind [z32_in]) | ((with_reducible refine zU3 ?_) <;> ((try clear hj_9); (try clear hj_14); (try clear hj_15); (try clear hj_20); lia)) | ((with_reducible refine zU5 (h_f5 _) ?_) <;> with_reducible assumption) | ((with_reducible refine zU6 ?_) <;> ((try clear hj_9); (try clear hj_14); (try clear hj_15); (try clear hj_20); lia)) | ((with_reducible refine zU8 ⟨?_, ?_⟩) <;> ((try clear hj_9); (try clear hj_14); (try clear hj_15); (try clear hj_20); first | lia | grind)) | ((with_reducible refine zO1 ?_) <;> with_reducible assumption) | ((with_reducible refine zO2 ?_) <;> with_reducible assumption) | ((try clear hj_9); (try clear hj_14); (try clear hj_15); (try clear hj_20); first | lia | grind [zu_at, zu_atL, zvn])))
        refine zw_if (fun c15 => ?_) (fun c15 => ?_)
        · exact hj_20 _ (by first | exact True.intro | ((try dsimp only); (repeat' apply And.intro) <;> first | with_reducible assumption | with_reducible exact fun _ => Or.inl rfl | with_reducible exact fun _ _ _ => rfl | with_reducible exact fun _ _ h => Or.inl h | with_reducible rfl | ((with_reducible refine zU7 ?_ ⟨?_, ?_⟩) <;> first | with_reducible assumption | lia) | ((with_reducible refine zU1 ?_) <;> grind [z32_in]) | with_reducible exact zU1m | ((with_reducible refine zU4 ?_) <;> ((try clear hj_9); (try clear hj_14); (try clear hj_15); (try clear hj_20); lia)) | ((with_reducible refine zU2 (h_f3 _) ?_ ?_) <;> first | lia | grind [z32_in]) | ((with_reducible refine zU3 ?_) <;> ((try clear hj_9); (try clear hj_14); (try clear hj_15); (try clear hj_20); lia)) | ((with_reducible refine zU5 (h_f5 _) ?_) <;> with_reducible assumption) | ((with_reducible refine zU6 ?_) <;> ((try clear hj_9); (try clear hj_14); (try clear hj_15); (try clear hj_20); lia)) | ((with_reducible refine zU8 ⟨?_, ?_⟩) <;> ((try clear hj_9); (try clear hj_14); (try clear hj_15); (try clear hj_20); first | lia | grind)) | ((with_reducible refine zO1 ?_) <;> with_reducible assumption) | ((with_reducible refine zO2 ?_) <;> with_reducible assumption) | ((try clear hj_9); (try clear hj_14); (try clear hj_15); (try clear hj_20); first | lia | grind [zu_at, zu_atL, zvn])))
        refine zw_zb0 (sf_X12_faults 4 o_1_1 s_14_0 s_14_1 (by first | with_reducible assumption | exact ⟨by with_reducible assumption, by with_reducible assumption⟩ | ((try clear hj_9); (try clear hj_14); (try clear hj_15); (try clear hj_20); first | lia | grind [zu_at, zu_atL, zvn])) (by first | with_reducible assumption | exact ⟨by with_reducible assumption, by with_reducible assumption⟩ | ((try clear hj_9); (try clear hj_14); (try clear hj_15); (try clear hj_20); first | lia | grind [zu_at, zu_atL, zvn]))) (fun o_146 ho_146 => ?_)
        obtain ⟨o_146_0, o_146_1⟩ := o_146
        try dsimp only at ho_146
        obtain ⟨ho_146_0, ho_146_1, ho_146_2, ho_146_3⟩ := ho_146
        exact hj_20 _ (by first | exact True.intro | ((try dsimp only); (repeat' apply And.intro) <;> first | with_reducible assumption | with_reducible exact fun _ => Or.inl rfl | with_reducible exact fun _ _ _ => rfl | with_reducible exact fun _ _ h => Or.inl h | with_reducible rfl | ((with_reducible refine zU7 ?_ ⟨?_, ?_⟩) <;> first | with_reducible assumption | lia) | ((with_reducible refine zU1 ?_) <;> grind [z32_in]) | with_reducible exact zU1m | ((with_reducible refine zU4 ?_) <;> ((try clear hj_9); (try clear hj_14); (try clear hj_15); (try clear hj_20); lia)) | ((with_reducible refine zU2 (h_f3 _) ?_ ?_) <;> first | lia | grind [z32_in]) | ((with_reducible refine zU3 ?_) <;> ((try clear hj_9); (try clear hj_14); (try clear hj_15); (try clear hj_20); lia)) | ((with_reducible refine zU5 (h_f5 _) ?_) <;> with_reducible assumption) | ((with_reducible refine zU6 ?_) <;> ((try clear hj_9); (try clear hj_14); (try clear hj_15); (try clear hj_20); lia)) | ((with_reducible refine zU8 ⟨?_, ?_⟩) <;> ((try clear hj_9); (try clear hj_14); (try clear hj_15); (try clear hj_20); first | lia | grind)) | ((with_reducible refine zO1 ?_) <;> with_reducible assumption) | ((with_reducible refine zO2 ?_) <;> with_reducible assumption) | ((try clear hj_9); (try clear hj_14); (try clear hj_15); (try clear hj_20); first | lia | grind [zu_at, zu_atL, zvn])))
      refine zw_zj (fun _ => True) (fun s_150 Hj_150 => ?_) (fun j_150 hj_150 => ?_)
      · exact hj_15 _ (by first | exact True.intro | ((try dsimp only); (repeat' apply And.intro) <;> first | with_reducible assumption | with_reducible exact fun _ => Or.inl rfl | with_reducible exact fun _ _ _ => rfl | with_reducible exact fun _ _ h => Or.inl h | with_reducible rfl | ((with_reducible refine zU7 ?_ ⟨?_, ?_⟩) <;> first | with_reducible assumption | lia) | ((with_reducible refine zU1 ?_) <;> grind [z32_in]) | with_reducible exact zU1m | ((with_reducible refine zU4 ?_) <;> ((try clear hj_9); (try clear hj_14); (try clear hj_15); (try clear hj_20); (try clear hj_150); lia)) | ((with_reducible refine zU2 (h_f3 _) ?_ ?_) <;> first | lia | grind [z32_in]) | ((with_reducible refine zU3 ?_) <;> ((try clear hj_9); (try clear hj_14); (try clear hj_15); (try clear hj_20); (try clear hj_150); lia)) | ((with_reducible refine zU5 (h_f5 _) ?_) <;> with_reducible assumption) | ((with_reducible refine zU6 ?_) <;> ((try clear hj_9); (try clear hj_14); (try clear hj_15); (try clear hj_20); (try clear hj_150); lia)) | ((with_reducible refine zU8 ⟨?_, ?_⟩) <;> ((try clear hj_9); (try clear hj_14); (try clear hj_15); (try clear hj_20); (try clear hj_150); first | lia | grind)) | ((with_reducible refine zO1 ?_) <;> with_reducible assumption) | ((with_reducible refine zO2 ?_) <;> with_reducible assumption) | ((try clear hj_9); (try clear hj_14); (try clear hj_15); (try clear hj_20); (try clear hj_150); first | lia | grind [zu_at, zu_atL, zvn])))
      refine zw_if (fun c16 => ?_) (fun c16 => ?_)
      · exact hj_150 _ (by first | exact True.intro | ((try dsimp only); (repeat' apply And.intro) <;> first | with_reducible assumption | with_reducible exact fun _ => Or.inl rfl | with_reducible exact fun _ _ _ => rfl | with_reducible exact fun _ _ h => Or.inl h | with_reducible rfl | ((with_reducible refine zU7 ?_ ⟨?_, ?_⟩) <;> first | with_reducible assumption | lia) | ((with_reducible refine zU1 ?_) <;> grind [z32_in]) | with_reducible exact zU1m | ((with_reducible refine zU4 ?_) <;> ((try clear hj_9); (try clear hj_14); (try clear hj_15); (try clear hj_20); (try clear hj_150); lia)) | ((with_reducible refine zU2 (h_f3 _) ?_ ?_) <;> first | lia | grind [z32_in]) | ((with_reducible refine zU3 ?_) <;> ((try clear hj_9); (try clear hj_14); (try clear hj_15); (try clear hj_20); (try clear hj_150); lia)) | ((with_reducible refine zU5 (h_f5 _) ?_) <;> with_reducible assumption) | ((with_reducible refine zU6 ?_) <;> ((try clear hj_9); (try clear hj_14); (try clear hj_15); (try clear hj_20); (try clear hj_150); lia)) | ((with_reducible refine zU8 ⟨?_, ?_⟩) <;> ((try clear hj_9); (try clear hj_14); (try clear hj_15); (try clear hj_20); (try clear hj_150); first | lia | grind)) | ((with_reducible refine zO1 ?_) <;> with_reducible assumption) | ((with_reducible refine zO2 ?_) <;> with_reducible assumption) | ((try clear hj_9); (try clear hj_14); (try clear hj_15); (try clear hj_20); (try clear hj_150); first | lia | grind [zu_at, zu_atL, zvn])))
      refine zw_zj (fun _ => (s_9 = 0 → f3 v0_11.toNatClampNeg ≤ 3)) (fun s_152 Hj_152 => ?_) (fun j_152 hj_152 => ?_)
      · refine zw_zj (fun _ => 5 ≤ s_9 ∧ s_9 ≤ 6) (fun s_153 Hj_153 => ?_) (fun j_153 hj_153 => ?_)
        · obtain ⟨Hj_153_0, Hj_153_1⟩ := Hj_153
          refine zw_zg32 2 (by decide) (by (try dsimp only); ((try clear hj_9); (try clear hj_14); (try clear hj_15); (try clear hj_20); (try clear hj_150); (try clear hj_152); (try clear hj_153); first | lia | grind [zu_at, zu_atL, zvn])) ?_
          refine zw_if (fun c17 => ?_) (fun c17 => ?_)
          · exact hj_150 _ (by first | exact True.intro | ((try dsimp only); (repeat' apply And.intro) <;> first | with_reducible assumption | with_reducible exact fun _ => Or.inl rfl | with_reducible exact fun _ _ _ => rfl | with_reducible exact fun _ _ h => Or.inl h | with_reducible rfl | ((with_reducible refine zU7 ?_ ⟨?_, ?_⟩) <;> first | with_reducible assumption | lia) | ((with_reducible refine zU1 ?_) <;> grind [z32_in]) | with_reducible exact zU1m | ((with_reducible refine zU4 ?_) <;> ((try clear hj_9); (try clear hj_14); (try clear hj_15); (try clear hj_20); (try clear hj_150); (try clear hj_152); (try clear hj_153); lia)) | ((with_reducible refine zU2 (h_f3 _) ?_ ?_) <;> first | lia | grind [z32_in]) | ((with_reducible refine zU3 ?_) <;> ((try clear hj_9); (try clear hj_14); (try clear hj_15); (try clear hj_20); (try clear hj_150); (try clear hj_152); (try clear hj_153); lia)) | ((with_reducible refine zU5 (h_f5 _) ?_) <;> with_reducible assumption) | ((with_reducible refine zU6 ?_) <;> ((try clear hj_9); (try clear hj_14); (try clear hj_15); (try clear hj_20); (try clear hj_150); (try clear hj_152); (try clear hj_153); lia)) | ((with_reducible refine zU8 ⟨?_, ?_⟩) <;> ((try clear hj_9); (try clear hj_14); (try clear hj_15); (try clear hj_20); (try clear hj_150); (try clear hj_152); (try clear hj_153); first | lia | grind)) | ((with_reducible refine zO1 ?_) <;> with_reducible assumption) | ((with_reducible refine zO2 ?_) <;> with_reducible assumption) | ((try clear hj_9); (try clear hj_14); (try clear hj_15); (try clear hj_20); (try clear hj_150); (try clear hj_152); (try clear hj_153); first | lia | grind [zu_at, zu_atL, zvn])))
          exact hj_15 _ (by first | exact True.intro | ((try dsimp only); (repeat' apply And.intro) <;> first | with_reducible assumption | with_reducible exact fun _ => Or.inl rfl | with_reducible exact fun _ _ _ => rfl | with_reducible exact fun _ _ h => Or.inl h | with_reducible rfl | ((with_reducible refine zU7 ?_ ⟨?_, ?_⟩) <;> first | with_reducible assumption | lia) | ((with_reducible refine zU1 ?_) <;> grind [z32_in]) | with_reducible exact zU1m | ((with_reducible refine zU4 ?_) <;> ((try clear hj_9); (try clear hj_14); (try clear hj_15); (try clear hj_20); (try clear hj_150); (try clear hj_152); (try clear hj_153); lia)) | ((with_reducible refine zU2 (h_f3 _) ?_ ?_) <;> first | lia | grind [z32_in]) | ((with_reducible refine zU3 ?_) <;> ((try clear hj_9); (try clear hj_14); (try clear hj_15); (try clear hj_20); (try clear hj_150); (try clear hj_152); (try clear hj_153); lia)) | ((with_reducible refine zU5 (h_f5 _) ?_) <;> with_reducible assumption) | ((with_reducible refine zU6 ?_) <;> ((try clear hj_9); (try clear hj_14); (try clear hj_15); (try clear hj_20); (try clear hj_150); (try clear hj_152); (try clear hj_153); lia)) | ((with_reducible refine zU8 ⟨?_, ?_⟩) <;> ((try clear hj_9); (try clear hj_14); (try clear hj_15); (try clear hj_20); (try clear hj_150); (try clear hj_152); (try clear hj_153); first | lia | grind)) | ((with_reducible refine zO1 ?_) <;> with_reducible assumption) | ((with_reducible refine zO2 ?_) <;> with_reducible assumption) | ((try clear hj_9); (try clear hj_14); (try clear hj_15); (try clear hj_20); (try clear hj_150); (try clear hj_152); (try clear hj_153); first | lia | grind [zu_at, zu_atL, zvn])))
        refine zw_if (fun c18 => ?_) (fun c18 => ?_)
        · exact hj_153 _ (by first | exact True.intro | ((try dsimp only); (repeat' apply And.intro) <;> first | with_reducible assumption | with_reducible exact fun _ => Or.inl rfl | with_reducible exact fun _ _ _ => rfl | with_reducible exact fun _ _ h => Or.inl h | with_reducible rfl | ((with_reducible refine zU7 ?_ ⟨?_, ?_⟩) <;> first | with_reducible assumption | lia) | ((with_reducible refine zU1 ?_) <;> grind [z32_in]) | with_reducible exact zU1m | ((with_reducible refine zU4 ?_) <;> ((try clear hj_9); (try clear hj_14); (try clear hj_15); (try clear hj_20); (try clear hj_150); (try clear hj_152); (try clear hj_153); lia)) | ((with_reducible refine zU2 (h_f3 _) ?_ ?_) <;> first | lia | grind [z32_in]) | ((with_reducible refine zU3 ?_) <;> ((try clear hj_9); (try clear hj_14); (try clear hj_15); (try clear hj_20); (try clear hj_150); (try clear hj_152); (try clear hj_153); lia)) | ((with_reducible refine zU5 (h_f5 _) ?_) <;> with_reducible assumption) | ((with_reducible refine zU6 ?_) <;> ((try clear hj_9); (try clear hj_14); (try clear hj_15); (try clear hj_20); (try clear hj_150); (try clear hj_152); (try clear hj_153); lia)) | ((with_reducible refine zU8 ⟨?_, ?_⟩) <;> ((try clear hj_9); (try clear hj_14); (try clear hj_15); (try clear hj_20); (try clear hj_150); (try clear hj_152); (try clear hj_153); first | lia | grind)) | ((with_reducible refine zO1 ?_) <;> with_reducible assumption) | ((with_reducible refine zO2 ?_) <;> with_reducible assumption) | ((try clear hj_9); (try clear hj_14); (try clear hj_15); (try clear hj_20); (try clear hj_150); (try clear hj_152); (try clear hj_153); first | lia | grind [zu_at, zu_atL, zvn])))
        refine zw_if (fun c19 => ?_) (fun c19 => ?_)
        · exact hj_153 _ (by first | exact True.intro | ((try dsimp only); (repeat' apply And.intro) <;> first | with_reducible assumption | with_reducible exact fun _ => Or.inl rfl | with_reducible exact fun _ _ _ => rfl | with_reducible exact fun _ _ h => Or.inl h | with_reducible rfl | ((with_reducible refine zU7 ?_ ⟨?_, ?_⟩) <;> first | with_reducible assumption | lia) | ((with_reducible refine zU1 ?_) <;> grind [z32_in]) | with_reducible exact zU1m | ((with_reducible refine zU4 ?_) <;> ((try clear hj_9); (try clear hj_14); (try clear hj_15); (try clear hj_20); (try clear hj_150); (try clear hj_152); (try clear hj_153); lia)) | ((with_reducible refine zU2 (h_f3 _) ?_ ?_) <;> first | lia | grind [z32_in]) | ((with_reducible refine zU3 ?_) <;> ((try clear hj_9); (try clear hj_14); (try clear hj_15); (try clear hj_20); (try clear hj_150); (try clear hj_152); (try clear hj_153); lia)) | ((with_reducible refine zU5 (h_f5 _) ?_) <;> with_reducible assumption) | ((with_reducible refine zU6 ?_) <;> ((try clear hj_9); (try clear hj_14); (try clear hj_15); (try clear hj_20); (try clear hj_150); (try clear hj_152); (try clear hj_153); lia)) | ((with_reducible refine zU8 ⟨?_, ?_⟩) <;> ((try clear hj_9); (try clear hj_14); (try clear hj_15); (try clear hj_20); (try clear hj_150); (try clear hj_152); (try clear hj_153); first | lia | grind)) | ((with_reducible refine zO1 ?_) <;> with_reducible assumption) | ((with_reducible refine zO2 ?_) <;> with_reducible assumption) | ((try clear hj_9); (try clear hj_14); (try clear hj_15); (try clear hj_20); (try clear hj_150); (try clear hj_152); (try clear hj_153); first | lia | grind [zu_at, zu_atL, zvn])))
        exact hj_15 _ (by first | exact True.intro | ((try dsimp only); (repeat' apply And.intro) <;> first | with_reducible assumption | with_reducible exact fun _ => Or.inl rfl | with_reducible exact fun _ _ _ => rfl | with_reducible exact fun _ _ h => Or.inl h | with_reducible rfl | ((with_reducible refine zU7 ?_ ⟨?_, ?_⟩) <;> first | with_reducible assumption | lia) | ((with_reducible refine zU1 ?_) <;> grind [z32_in]) | with_reducible exact zU1m | ((with_reducible refine zU4 ?_) <;> ((try clear hj_9); (try clear hj_14); (try clear hj_15); (try clear hj_20); (try clear hj_150); (try clear hj_152); (try clear hj_153); lia)) | ((with_reducible refine zU2 (h_f3 _) ?_ ?_) <;> first | lia | grind [z32_in]) | ((with_reducible refine zU3 ?_) <;> ((try clear hj_9); (try clear hj_14); (try clear hj_15); (try clear hj_20); (try clear hj_150); (try clear hj_152); (try clear hj_153); lia)) | ((with_reducible refine zU5 (h_f5 _) ?_) <;> with_reducible assumption) | ((with_reducible refine zU6 ?_) <;> ((try clear hj_9); (try clear hj_14); (try clear hj_15); (try clear hj_20); (try clear hj_150); (try clear hj_152); (try clear hj_153); lia)) | ((with_reducible refine zU8 ⟨?_, ?_⟩) <;> ((try clear hj_9); (try clear hj_14); (try clear hj_15); (try clear hj_20); (try clear hj_150); (try clear hj_152); (try clear hj_153); first | lia | grind)) | ((with_reducible refine zO1 ?_) <;> with_reducible assumption) | ((with_reducible refine zO2 ?_) <;> with_reducible assumption) | ((try clear hj_9); (try clear hj_14); (try clear hj_15); (try clear hj_20); (try clear hj_150); (try clear hj_152); (try clear hj_153); first | lia | grind [zu_at, zu_atL, zvn])))
      refine zw_if (fun c20 => ?_) (fun c20 => ?_)
      · refine zw_zg32 2 (by decide) (by (try dsimp only); ((try clear hj_9); (try clear hj_14); (try clear hj_15); (try clear hj_20); (try clear hj_150); (try clear hj_152); (try clear hj_153); first | lia | grind [zu_at, zu_atL, zvn])) ?_
        refine zw_if (fun c21 => ?_) (fun c21 => ?_)
        · exact hj_150 _ (by first | exact True.intro | ((try dsimp only); (repeat' apply And.intro) <;> first | with_reducible assumption | with_reducible exact fun _ => Or.inl rfl | with_reducible exact fun _ _ _ => rfl | with_reducible exact fun _ _ h => Or.inl h | with_reducible rfl | ((with_reducible refine zU7 ?_ ⟨?_, ?_⟩) <;> first | with_reducible assumption | lia) | ((with_reducible refine zU1 ?_) <;> grind [z32_in]) | with_reducible exact zU1m | ((with_reducible refine zU4 ?_) <;> ((try clear hj_9); (try clear hj_14); (try clear hj_15); (try clear hj_20); (try clear hj_150); (try clear hj_152); (try clear hj_153); lia)) | ((with_reducible refine zU2 (h_f3 _) ?_ ?_) <;> first | lia | grind [z32_in]) | ((with_reducible refine zU3 ?_) <;> ((try clear hj_9); (try clear hj_14); (try clear hj_15); (try clear hj_20); (try clear hj_150); (try clear hj_152); (try clear hj_153); lia)) | ((with_reducible refine zU5 (h_f5 _) ?_) <;> with_reducible assumption) | ((with_reducible refine zU6 ?_) <;> ((try clear hj_9); (try clear hj_14); (try clear hj_15); (try clear hj_20); (try clear hj_150); (try clear hj_152); (try clear hj_153); lia)) | ((with_reducible refine zU8 ⟨?_, ?_⟩) <;> ((try clear hj_9); (try clear hj_14); (try clear hj_15); (try clear hj_20); (try clear hj_150); (try clear hj_152); (try clear hj_153); first | lia | grind)) | ((with_reducible refine zO1 ?_) <;> with_reducible assumption) | ((with_reducible refine zO2 ?_) <;> with_reducible assumption) | ((try clear hj_9); (try clear hj_14); (try clear hj_15); (try clear hj_20); (try clear hj_150); (try clear hj_152); (try clear hj_153); first | lia | grind [zu_at, zu_atL, zvn])))
        exact hj_152 _ (by first | exact True.intro | ((try dsimp only); (repeat' apply And.intro) <;> first | with_reducible assumption | with_reducible exact fun _ => Or.inl rfl | with_reducible exact fun _ _ _ => rfl | with_reducible exact fun _ _ h => Or.inl h | with_reducible rfl | ((with_reducible refine zU7 ?_ ⟨?_, ?_⟩) <;> first | with_reducible assumption | lia) | ((with_reducible refine zU1 ?_) <;> grind [z32_in]) | with_reducible exact zU1m | ((with_reducible refine zU4 ?_) <;> ((try clear hj_9); (try clear hj_14); (try clear hj_15); (try clear hj_20); (try clear hj_150); (try clear hj_152); (try clear hj_153); lia)) | ((with_reducible refine zU2 (h_f3 _) ?_ ?_) <;> first | lia | grind [z32_in]) | ((with_reducible refine zU3 ?_) <;> ((try clear hj_9); (try clear hj_14); (try clear hj_15); (try clear hj_20); (try clear hj_150); (try clear hj_152); (try clear hj_153); lia)) | ((with_reducible refine zU5 (h_f5 _) ?_) <;> with_reducible assumption) | ((with_reducible refine zU6 ?_) <;> ((try clear hj_9); (try clear hj_14); (try clear hj_15); (try clear hj_20); (try clear hj_150); (try clear hj_152); (try clear hj_153); lia)) | ((with_reducible refine zU8 ⟨?_, ?_⟩) <;> ((try clear hj_9); (try clear hj_14); (try clear hj_15); (try clear hj_20); (try clear hj_150); (try clear hj_152); (try clear hj_153); first | lia | grind)) | ((with_reducible refine zO1 ?_) <;> with_reducible assumption) | ((with_reducible refine zO2 ?_) <;> with_reducible assumption) | ((try clear hj_9); (try clear hj_14); (try clear hj_15); (try clear hj_20); (try clear hj_150); (try clear hj_152); (try clear hj_153); first | lia | grind [zu_at, zu_atL, zvn])))
      exact hj_152 _ (by first | exact True.intro | ((try dsimp only); (repeat' apply And.intro) <;> first | with_reducible assumption | with_reducible exact fun _ => Or.inl rfl | with_reducible exact fun _ _ _ => rfl | with_reducible exact fun _ _ h => Or.inl h | with_reducible rfl | ((with_reducible refine zU7 ?_ ⟨?_, ?_⟩) <;> first | with_reducible assumption | lia) | ((with_reducible refine zU1 ?_) <;> grind [z32_in]) | with_reducible exact zU1m | ((with_reducible refine zU4 ?_) <;> ((try clear hj_9); (try clear hj_14); (try clear hj_15); (try clear hj_20); (try clear hj_150); (try clear hj_152); (try clear hj_153); lia)) | ((with_reducible refine zU2 (h_f3 _) ?_ ?_) <;> first | lia | grind [z32_in]) | ((with_reducible refine zU3 ?_) <;> ((try clear hj_9); (try clear hj_14); (try clear hj_15); (try clear hj_20); (try clear hj_150); (try clear hj_152); (try clear hj_153); lia)) | ((with_reducible refine zU5 (h_f5 _) ?_) <;> with_reducible assumption) | ((with_reducible refine zU6 ?_) <;> ((try clear hj_9); (try clear hj_14); (try clear hj_15); (try clear hj_20); (try clear hj_150); (try clear hj_152); (try clear hj_153); lia)) | ((with_reducible refine zU8 ⟨?_, ?_⟩) <;> ((try clear hj_9); (try clear hj_14); (try clear hj_15); (try clear hj_20); (try clear hj_150); (try clear hj_152); (try clear hj_153); first | lia | grind)) | ((with_reducible refine zO1 ?_) <;> with_reducible assumption) | ((with_reducible refine zO2 ?_) <;> with_reducible assumption) | ((try clear hj_9); (try clear hj_14); (try clear hj_15); (try clear hj_20); (try clear hj_150); (try clear hj_152); (try clear hj_153); first | lia | grind [zu_at, zu_atL, zvn])))
    refine zw_if (fun c22 => ?_) (fun c22 => ?_)
    · exact hj_14 _ (by first | exact True.intro | ((try dsimp only); (repeat' apply And.intro) <;> first | with_reducible assumption | with_reducible exact fun _ => Or.inl rfl | with_reducible exact fun _ _ _ => rfl | with_reducible exact fun _ _ h => Or.inl h | with_reducible rfl | ((with_reducible refine zU7 ?_ ⟨?_, ?_⟩) <;> first | with_reducible assumption | lia) | ((with_reducible refine zU1 ?_) <;> grind [z32_in]) | with_reducible exact zU1m | ((with_reducible refine zU4 ?_) <;> ((try clear hj_9); (try clear hj_14); (try clear hj_15); (try clear hj_20); (try clear hj_150); (try clear hj_152); (try clear hj_153); lia)) | ((with_reducible refine zU2 (h_f3 _) ?_ ?_) <;> first | lia | grind [z32_in]) | ((with_reducible refine zU3 ?_) <;> ((try clear hj_9); (try clear hj_14); (try clear hj_15); (try clear hj_20); (try clear hj_150); (try clear hj_152); (try clear hj_153); lia)) | ((with_reducible refine zU5 (h_f5 _) ?_) <;> with_reducible assumption) | ((with_reducible refine zU6 ?_) <;> ((try clear hj_9); (try clear hj_14); (try clear hj_15); (try clear hj_20); (try clear hj_150); (try clear hj_152); (try clear hj_153); lia)) | ((with_reducible refine zU8 ⟨?_, ?_⟩) <;> ((try clear hj_9); (try clear hj_14); (try clear hj_15); (try clear hj_20); (try clear hj_150); (try clear hj_152); (try clear hj_153); first | lia | grind)) | ((with_reducible refine zO1 ?_) <;> with_reducible assumption) | ((with_reducible refine zO2 ?_) <;> with_reducible assumption) | ((try clear hj_9); (try clear hj_14); (try clear hj_15); (try clear hj_20); (try clear hj_150); (try clear hj_152); (try clear hj_153); first | lia | grind [zu_at, zu_atL, zvn])))
    refine zw_zb0 (sf_X12_isBeginning s_9) (fun o_162 ho_162 => ?_)
    obtain ⟨ho_162_0, ho_162_1, ho_162_2, ho_162_3, ho_162_4⟩ := ho_162
    refine zw_if (fun c23 => ?_) (fun c23 => ?_)
    · refine zw_zb0 (sf_X12_faults 1 o_1_1 o_1_2 o_1_3 (by first | with_reducible assumption | exact ⟨by with_reducible assumption, by with_reducible assumption⟩ | ((try clear hj_9); (try clear hj_14); (try clear hj_15); (try clear hj_20); (try clear hj_150); (try clear hj_152); (try clear hj_153); first | lia | grind [zu_at, zu_atL, zvn])) (by first | with_reducible assumption | exact ⟨by with_reducible assumption, by with_reducible assumption⟩ | ((try clear hj_9); (try clear hj_14); (try clear hj_15); (try clear hj_20); (try clear hj_150); (try clear hj_152); (try clear hj_153); first | lia | grind [zu_at, zu_atL, zvn]))) (fun o_167 ho_167 => ?_)
      obtain ⟨o_167_0, o_167_1⟩ := o_167
      try dsimp only at ho_167
      obtain ⟨ho_167_0, ho_167_1, ho_167_2, ho_167_3⟩ := ho_167
      exact hj_14 _ (by first | exact True.intro | ((try dsimp only); (repeat' apply And.intro) <;> first | with_reducible assumption | with_reducible exact fun _ => Or.inl rfl | with_reducible exact fun _ _ _ => rfl | with_reducible exact fun _ _ h => Or.inl h | with_reducible rfl | ((with_reducible refine zU7 ?_ ⟨?_, ?_⟩) <;> first | with_reducible assumption | lia) | ((with_reducible refine zU1 ?_) <;> grind [z32_in]) | with_reducible exact zU1m | ((with_reducible refine zU4 ?_) <;> ((try clear hj_9); (try clear hj_14); (try clear hj_15); (try clear hj_20); (try clear hj_150); (try clear hj_152); (try clear hj_153); lia)) | ((with_reducible refine zU2 (h_f3 _) ?_ ?_) <;> first | lia | grind [z32_in]) | ((with_reducible refine zU3 ?_) <;> ((try clear hj_9); (try clear hj_14); (try clear hj_15); (try clear hj_20); (try clear hj_150); (try clear hj_152); (try clear hj_153); lia)) | ((with_reducible refine zU5 (h_f5 _) ?_) <;> with_reducible assumption) | ((with_reducible refine zU6 ?_) <;> ((try clear hj_9); (try clear hj_14); (try clear hj_15); (try clear hj_20); (try clear hj_150); (try clear hj_152); (try clear hj_153); lia)) | ((with_reducible refine zU8 ⟨?_, ?_⟩) <;> ((try clear hj_9); (try clear hj_14); (try clear hj_15); (try clear hj_20); (try clear hj_150); (try clear hj_152); (try clear hj_153); first | lia | grind)) | ((with_reducible refine zO1 ?_) <;> with_reducible assumption) | ((with_reducible refine zO2 ?_) <;> with_reducible assumption) | ((try clear hj_9); (try clear hj_14); (try clear hj_15); (try clear hj_20); (try clear hj_150); (try clear hj_152); (try clear hj_153); first | lia | grind [zu_at, zu_atL, zvn])))
    exact hj_14 _ (by first | exact True.intro | ((try dsimp only); (repeat' apply And.intro) <;> first | with_reducible assumption | with_reducible exact fun _ => Or.inl rfl | with_reducible exact fun _ _ _ => rfl | with_reducible exact fun _ _ h => Or.inl h | with_reducible rfl | ((with_reducible refine zU7 ?_ ⟨?_, ?_⟩) <;> first | with_reducible assumption | lia) | ((with_reducible refine zU1 ?_) <;> grind [z32_in]) | with_reducible exact zU1m | ((with_reducible refine zU4 ?_) <;> ((try clear hj_9); (try clear hj_14); (try clear hj_15); (try clear hj_20); (try clear hj_150); (try clear hj_152); (try clear hj_153); lia)) | ((with_reducible refine zU2 (h_f3 _) ?_ ?_) <;> first | lia | grind [z32_in]) | ((with_reducible refine zU3 ?_) <;> ((try clear hj_9); (try clear hj_14); (try clear hj_15); (try clear hj_20); (try clear hj_150); (try clear hj_152); (try clear hj_153); lia)) | ((with_reducible refine zU5 (h_f5 _) ?_) <;> with_reducible assumption) | ((with_reducible refine zU6 ?_) <;> ((try clear hj_9); (try clear hj_14); (try clear hj_15); (try clear hj_20); (try clear hj_150); (try clear hj_152); (try clear hj_153); lia)) | ((with_reducible refine zU8 ⟨?_, ?_⟩) <;> ((try clear hj_9); (try clear hj_14); (try clear hj_15); (try clear hj_20); (try clear hj_150); (try clear hj_152); (try clear hj_153); first | lia | grind)) | ((with_reducible refine zO1 ?_) <;> with_reducible assumption) | ((with_reducible refine zO2 ?_) <;> with_reducible assumption) | ((try clear hj_9); (try clear hj_14); (try clear hj_15); (try clear hj_20); (try clear hj_150); (try clear hj_152); (try clear hj_153); first | lia | grind [zu_at, zu_atL, zvn])))
  refine zw_if (fun c24 => ?_) (fun c24 => ?_)
  · exact hj_9 _ (by first | exact True.intro | ((try dsimp only); (repeat' apply And.intro) <;> first | with_reducible assumption | with_reducible exact fun _ => Or.inl rfl | with_reducible exact fun _ _ _ => rfl | with_reducible exact fun _ _ h => Or.inl h | with_reducible rfl | ((with_reducible refine zU7 ?_ ⟨?_, ?_⟩) <;> first | with_reducible assumption | lia) | ((with_reducible refine zU1 ?_) <;> grind [z32_in]) | with_reducible exact zU1m | ((with_reducible refine zU4 ?_) <;> ((try clear hj_9); (try clear hj_14); (try clear hj_15); (try clear hj_20); (try clear hj_150); (try clear hj_152); (try clear hj_153); lia)) | ((with_reducible refine zU2 (h_f3 _) ?_ ?_) <;> first | lia | grind [z32_in]) | ((with_reducible refine zU3 ?_) <;> ((try clear hj_9); (try clear hj_14); (try clear hj_15); (try clear hj_20); (try clear hj_150); (try clear hj_152); (try clear hj_153); lia)) | ((with_reducible refine zU5 (h_f5 _) ?_) <;> with_reducible assumption) | ((with_reducible refine zU6 ?_) <;> ((try clear hj_9); (try clear hj_14); (try clear hj_15); (try clear hj_20); (try clear hj_150); (try clear hj_152); (try clear hj_153); lia)) | ((with_reducible refine zU8 ⟨?_, ?_⟩) <;> ((try clear hj_9); (try clear hj_14); (try clear hj_15); (try clear hj_20); (try clear hj_150); (try clear hj_152); (try clear hj_153); first | lia | grind)) | ((with_reducible refine zO1 ?_) <;> with_reducible assumption) | ((with_reducible refine zO2 ?_) <;> with_reducible assumption) | ((try clear hj_9); (try clear hj_14); (try clear hj_15); (try clear hj_20); (try clear hj_150); (try clear hj_152); (try clear hj_153); first | lia | grind [zu_at, zu_atL, zvn])))
  refine zw_zb0 (sf_X12_own o_1_0 o_1_1 f2 f1 (by first | with_reducible assumption | exact ⟨by with_reducible assumption, by with_reducible assumption⟩ | ((try clear hj_9); (try clear hj_14); (try clear hj_15); (try clear hj_20); (try clear hj_150); (try clear hj_152); (try clear hj_153); first | lia | grind [zu_at, zu_atL, zvn])) (by first | with_reducible assumption | exact ⟨by with_reducible assumption, by with_reducible assumption⟩ | ((try clear hj_9); (try clear hj_14); (try clear hj_15); (try clear hj_20); (try clear hj_150); (try clear hj_152); (try clear hj_153); first | lia | grind [zu_at, zu_atL, zvn])) (by first | with_reducible assumption | exact ⟨by with_reducible assumption, by with_reducible assumption⟩ | ((try clear hj_9); (try clear hj_14); (try clear hj_15); (try clear hj_20); (try clear hj_150); (try clear hj_152); (try clear hj_153); first | lia | grind [zu_at, zu_atL, zvn])) (by first | with_reducible assumption | exact ⟨by with_reducible assumption, by with_reducible assumption⟩ | ((try clear hj_9); (try clear hj_14); (try clear hj_15); (try clear hj_20); (try clear hj_150); (try clear hj_152); (try clear hj_153); first | lia | grind [zu_at, zu_atL, zvn]))) (fun o_172 ho_172 => ?_)
  obtain ⟨ho_172_0, ho_172_1⟩ := ho_172
  exact hj_9 _ (by first | exact True.intro | ((try dsimp only); (repeat' apply And.intro) <;> first | with_reducible assumption | with_reducible exact fun _ => Or.inl rfl | with_reducible exact fun _ _ _ => rfl | with_reducible exact fun _ _ h => Or.inl h | with_reducible rfl | ((with_reducible refine zU7 ?_ ⟨?_, ?_⟩) <;> first | with_reducible assumption | lia) | ((with_reducible refine zU1 ?_) <;> grind [z32_in]) | with_reducible exact zU1m | ((with_reducible refine zU4 ?_) <;> ((try clear hj_9); (try clear hj_14); (try clear hj_15); (try clear hj_20); (try clear hj_150); (try clear hj_152); (try clear hj_153); lia)) | ((with_reducible refine zU2 (h_f3 _) ?_ ?_) <;> first | lia | grind [z32_in]) | ((with_reducible refine zU3 ?_) <;> ((try clear hj_9); (try clear hj_14); (try clear hj_15); (try clear hj_20); (try clear hj_150); (try clear hj_152); (try clear hj_153); lia)) | ((with_reducible refine zU5 (h_f5 _) ?_) <;> with_reducible assumption) | ((with_reducible refine zU6 ?_) <;> ((try clear hj_9); (try clear hj_14); (try clear hj_15); (try clear hj_20); (try clear hj_150); (try clear hj_152); (try clear hj_153); lia)) | ((with_reducible refine zU8 ⟨?_, ?_⟩) <;> ((try clear hj_9); (try clear hj_14); (try clear hj_15); (try clear hj_20); (try clear hj_150); (try clear hj_152); (try clear hj_153); first | lia | grind)) | ((with_reducible refine zO1 ?_) <;> with_reducible assumption) | ((with_reducible refine zO2 ?_) <;> with_reducible assumption) | ((try clear hj_9); (try clear hj_14); (try clear hj_15); (try clear hj_20); (try clear hj_150); (try clear hj_152); (try clear hj_153); first | lia | grind [zu_at, zu_atL, zvn])))
set_option maxHeartbeats 4000000 in
set_option maxRecDepth 100000 in
theorem sf_X12_copiesTask (f1 : Nat → Int32) (f2 : Nat → Int32) (f3 : Nat → Int32) (f4 : Nat → Int32) (f5 : Nat → Int32) (f6 : Nat → Int32) (f7 : Nat → Int32) (f8 : Nat → Int32) (f9 : Nat → Int32) (f10 : Nat → Int32) (f11 : Nat → Int32) (f12 : Nat → Int64) (f13 : Nat → Int64) (f14 : Nat → Int32) (f15 : Nat → Int32) (f16 : Nat → Int32) (h_f1 : (∀ i : Nat, 0 ≤ f1 i ∧ f1 i ≤ 4)) (h_f2 : (∀ i : Nat, 0 ≤ f2 i ∧ f2 i ≤ 14)) (h_f10 : (∀ i : Nat, (-1) ≤ f10 i ∧ f10 i ≤ 13)) (h_f11 : (∀ i : Nat, (-1) ≤ f11 i ∧ f11 i ≤ 13)) (h_f14 : (∀ i : Nat, (-1) ≤ f14 i ∧ f14 i ≤ 3)) (h_f16 : (∀ i : Nat, 0 ≤ f16 i ∧ f16 i ≤ 13)) : zw (fn_X12_copiesTask f1 f2 f3 f4 f5 f6 f7 f8 f9 f10 f11 f12 f13 f14 f15 f16) (fun r => (∀ i : Nat, 0 ≤ r.1 i ∧ r.1 i ≤ 4) ∧ (∀ i : Nat, 0 ≤ r.2.1 i ∧ r.2.1 i ≤ 14) ∧ (∀ i : Nat, (-1) ≤ r.2.2.2.2.2.2.2.2.2.1 i ∧ r.2.2.2.2.2.2.2.2.2.1 i ≤ 13) ∧ (∀ i : Nat, (-1) ≤ r.2.2.2.2.2.2.2.2.2.2.1 i ∧ r.2.2.2.2.2.2.2.2.2.2.1 i ≤ 13) ∧ (∀ i : Nat, (-1) ≤ r.2.2.2.2.2.2.2.2.2.2.2.2.2.1 i ∧ r.2.2.2.2.2.2.2.2.2.2.2.2.2.1 i ≤ 3) ∧ (∀ i : Nat, 0 ≤ r.2.2.2.2.2.2.2.2.2.2.2.2.2.2.2 i ∧ r.2.2.2.2.2.2.2.2.2.2.2.2.2.2.2 i ≤ 13) ∧ r.1 (0 : Int32).toNatClampNeg = f1 (1 : Int32).toNatClampNeg ∧ r.2.1 (0 : Int32).toNatClampNeg = f2 (1 : Int32).toNatClampNeg ∧ (∀ x : Int32, 0 ≤ x → x < 4 → r.2.2.2.2.1 x.toNatClampNeg = f5 (4 + x).toNatClampNeg ∧ r.2.2.2.2.1 (4 + x).toNatClampNeg = f5 (4 + x).toNatClampNeg) ∧ (∀ k : Int32, 0 ≤ k → k < 14 → r.2.2.2.2.2.2.2.2.2.2.2.2.2.1 k.toNatClampNeg = f14 (14 + k).toNatClampNeg)) := by
  unfold fn_X12_copiesTask
  refine zw_zn1 ?_
  refine zw_zn1 ?_
  refine zw_zn1 ?_
  refine zw_zl32 (fun s_4 => (∀ x : Int32, 0 ≤ x → x < s_4.1 → s_4.2.2.1 x.toNatClampNeg = f5 (4 + x).toNatClampNeg) ∧ (∀ x : Int32, 4 ≤ x → s_4.2.2.1 x.toNatClampNeg = f5 x.toNatClampNeg) ∧ 0 ≤ s_4.1 ∧ s_4.1 ≤ 4) (fun s_4 => 4 - s_4.1) (by (try dsimp only); (repeat' apply And.intro) <;> first | with_reducible assumption | with_reducible exact fun _ => Or.inl rfl | with_reducible exact fun _ _ _ => rfl | with_reducible exact fun _ _ h => Or.inl h | with_reducible rfl | ((with_reducible refine zU1 ?_) <;> grind [z32_in]) | with_reducible exact zU1m | ((with_reducible refine zU4 ?_) <;> lia) | ((with_reducible refine zU3 ?_) <;> lia) | ((with_reducible refine zU6 ?_) <;> lia) | ((with_reducible refine zU8 ⟨?_, ?_⟩) <;> first | lia | grind) | ((with_reducible refine zO1 ?_) <;> with_reducible assumption) | ((with_reducible refine zO2 ?_) <;> with_reducible assumption) | ((with_reducible refine zU7 ?_ ⟨?_, ?_⟩) <;> first | with_reducible assumption | lia | grind) | ((with_reducible refine zC1 (d := 4) ⟨by decide, by decide⟩ ?_ ?_ ?_ ?_) <;> first | with_reducible assumption | lia) | ((with_reducible refine zC2 (d := 4) ⟨by decide, by decide⟩ ?_ ?_ ?_) <;> first | with_reducible assumption | lia) | ((with_reducible refine zC1 (d := 14) ⟨by decide, by decide⟩ ?_ ?_ ?_ ?_) <;> first | with_reducible assumption | lia) | ((with_reducible refine zC2 (d := 14) ⟨by decide, by decide⟩ ?_ ?_ ?_) <;> first | with_reducible assumption | lia) | ((with_reducible refine zC3 ?_ ?_ ?_) <;> first | with_reducible assumption | lia) | ((with_reducible refine zC4 ?_ ?_) <;> first | with_reducible assumption | lia) | first | lia | grind [zu_at, zu_atL, zvn]) (by (try dsimp only); first | lia | grind [zu_at, zu_atL, zvn]) (fun s_4 back_4 Hback_4 hback_4 => ?_)
  obtain ⟨s_4_0, s_4_1, s_4_2, s_4_3, s_4_4⟩ := s_4
  try dsimp only at Hback_4 hback_4
  obtain ⟨Hback_4_0, Hback_4_1, Hback_4_2, Hback_4_3⟩ := Hback_4
  refine zw_if (fun c1 => ?_) (fun c1 => ?_)
  · refine zw_zl32 (fun s_6 => (∀ x : Int32, 0 ≤ x → x < s_6.1 → s_6.2.2.2.2.2.2.2.1 x.toNatClampNeg = f14 (14 + x).toNatClampNeg) ∧ (∀ x : Int32, 14 ≤ x → s_6.2.2.2.2.2.2.2.1 x.toNatClampNeg = f14 x.toNatClampNeg) ∧ (∀ i : Nat, (-1) ≤ s_6.2.2.2.1 i ∧ s_6.2.2.2.1 i ≤ 13) ∧ (∀ i : Nat, (-1) ≤ s_6.2.2.2.2.1 i ∧ s_6.2.2.2.2.1 i ≤ 13) ∧ (∀ i : Nat, (-1) ≤ s_6.2.2.2.2.2.2.2.1 i ∧ s_6.2.2.2.2.2.2.2.1 i ≤ 3) ∧ (∀ i : Nat, 0 ≤ s_6.2.2.2.2.2.2.2.2.2 i ∧ s_6.2.2.2.2.2.2.2.2.2 i ≤ 13) ∧ 0 ≤ s_6.1 ∧ s_6.1 ≤ 14) (fun s_6 => 14 - s_6.1) (by (try dsimp only); (repeat' apply And.intro) <;> first | with_reducible assumption | with_reducible exact fun _ => Or.inl rfl | with_reducible exact fun _ _ _ => rfl | with_reducible exact fun _ _ h => Or.inl h | with_reducible rfl | ((with_reducible refine zU1 ?_) <;> grind [z32_in]) | with_reducible exact zU1m | ((with_reducible refine zU4 ?_) <;> ((try clear hback_4); lia)) | ((with_reducible refine zU3 ?_) <;> ((try clear hback_4); lia)) | ((with_reducible refine zU6 ?_) <;> ((try clear hback_4); lia)) | ((with_reducible refine zU8 ⟨?_, ?_⟩) <;> ((try clear hback_4); first | lia | grind)) | ((with_reducible refine zO1 ?_) <;> with_reducible assumption) | ((with_reducible refine zO2 ?_) <;> with_reducible assumption) | ((with_reducible refine zU7 ?_ ⟨?_, ?_⟩) <;> first | with_reducible assumption | lia | grind) | ((with_reducible refine zC1 (d := 4) ⟨by decide, by decide⟩ ?_ ?_ ?_ ?_) <;> first | with_reducible assumption | lia) | ((with_reducible refine zC2 (d := 4) ⟨by decide, by decide⟩ ?_ ?_ ?_) <;> first | with_reducible assumption | lia) | ((with_reducible refine zC1 (d := 14) ⟨by decide, by decide⟩ ?_ ?_ ?_ ?_) <;> first | with_reducible assumption | lia) | ((with_reducible refine zC2 (d := 14) ⟨by decide, by decide⟩ ?_ ?_ ?_) <;> first | with_reducible assumption | lia) | ((with_reducible refine zC3 ?_ ?_ ?_) <;> first | with_reducible assumption | lia) | ((with_reducible refine zC4 ?_ ?_) <;> first | with_reducible assumption | lia) | ((try clear hback_4); first | lia | grind [zu_at, zu_atL, zvn])) (by (try dsimp only); ((try clear hback_4); first | lia | grind [zu_at, zu_atL, zvn])) (fun s_6 back_6 Hback_6 hback_6 => ?_)
    obtain ⟨s_6_0, s_6_1, s_6_2, s_6_3, s_6_4, s_6_5, s_6_6, s_6_7, s_6_8, s_6_9⟩ := s_6
    try dsimp only at Hback_6 hback_6
    obtain ⟨Hback_6_0, Hback_6_1, Hback_6_2, Hback_6_3, Hback_6_4, Hback_6_5, Hback_6_6, Hback_6_7⟩ := Hback_6
    refine zw_if (fun c2 => ?_) (fun c2 => ?_)
    · refine zw_some ?_
      first | exact True.intro | ((try dsimp only); (repeat' apply And.intro) <;> first | with_reducible assumption | with_reducible exact fun _ => Or.inl rfl | with_reducible exact fun _ _ _ => rfl | with_reducible exact fun _ _ h => Or.inl h | with_reducible rfl | ((with_reducible refine zU1 ?_) <;> grind [z32_in]) | with_reducible exact zU1m | ((with_reducible refine zU4 ?_) <;> ((try clear hback_4); (try clear hback_6); lia)) | ((with_reducible refine zU3 ?_) <;> ((try clear hback_4); (try clear hback_6); lia)) | ((with_reducible refine zU6 ?_) <;> ((try clear hback_4); (try clear hback_6); lia)) | ((with_reducible refine zU8 ⟨?_, ?_⟩) <;> ((try clear hback_4); (try clear hback_6); first | lia | grind)) | ((with_reducible refine zO1 ?_) <;> with_reducible assumption) | ((with_reducible refine zO2 ?_) <;> with_reducible assumption) | ((with_reducible refine zU7 ?_ ⟨?_, ?_⟩) <;> first | with_reducible assumption | lia | grind) | ((with_reducible refine zC1 (d := 4) ⟨by decide, by decide⟩ ?_ ?_ ?_ ?_) <;> first | with_reducible assumption | lia) | ((with_reducible refine zC2 (d := 4) ⟨by decide, by decide⟩ ?_ ?_ ?_) <;> first | with_reducible assumption | lia) | ((with_reducible refine zC1 (d := 14) ⟨by decide, by decide⟩ ?_ ?_ ?_ ?_) <;> first | with_reducible assumption | lia) | ((with_reducible refine zC2 (d := 14) ⟨by decide, by decide⟩ ?_ ?_ ?_) <;> first | with_reducible assumption | lia) | ((with_reducible refine zC3 ?_ ?_ ?_) <;> first | with_reducible assumption | lia) | ((with_reducible refine zC4 ?_ ?_) <;> first | with_reducible assumption | lia) | ((try clear hback_4); (try clear hback_6); first | lia | grind [zu_at, zu_atL, zvn]))
    refine zw_zg32 28 (by decide) (by (try dsimp only); ((try clear hback_4); (try clear hback_6); first | lia | grind [zu_at, zu_atL, zvn])) ?_
    refine zw_zg32 28 (by decide) (by (try dsimp only); ((try clear hback_4); (try clear hback_6); first | lia | grind [zu_at, zu_atL, zvn])) ?_
    refine zw_zn1 ?_
    refine zw_zn1 ?_
    refine zw_zn1 ?_
    refine zw_zn1 ?_
    refine zw_zn1 ?_
    refine zw_zn1 ?_
    refine zw_zn1 ?_
    refine zw_zn1 ?_
    refine zw_zn1 ?_
    exact hback_6 _ (by (try dsimp only); (repeat' apply And.intro) <;> first | with_reducible assumption | with_reducible exact fun _ => Or.inl rfl | with_reducible exact fun _ _ _ => rfl | with_reducible exact fun _ _ h => Or.inl h | with_reducible rfl | ((with_reducible refine zU1 ?_) <;> grind [z32_in]) | with_reducible exact zU1m | ((with_reducible refine zU4 ?_) <;> ((try clear hback_4); (try clear hback_6); lia)) | ((with_reducible refine zU3 ?_) <;> ((try clear hback_4); (try clear hback_6); lia)) | ((with_reducible refine zU6 ?_) <;> ((try clear hback_4); (try clear hback_6); lia)) | ((with_reducible refine zU8 ⟨?_, ?_⟩) <;> ((try clear hback_4); (try clear hback_6); first | lia | grind)) | ((with_reducible refine zO1 ?_) <;> with_reducible assumption) | ((with_reducible refine zO2 ?_) <;> with_reducible assumption) | ((with_reducible refine zU7 ?_ ⟨?_, ?_⟩) <;> first | with_reducible assumption | lia | grind) | ((with_reducible refine zC1 (d := 4) ⟨by decide, by decide⟩ ?_ ?_ ?_ ?_) <;> first | with_reducible assumption | lia) | ((with_reducible refine zC2 (d := 4) ⟨by decide, by decide⟩ ?_ ?_ ?_) <;> first | with_reducible assumption | lia) | ((with_reducible refine zC1 (d := 14) ⟨by decide, by decide⟩ ?_ ?_ ?_ ?_) <;> first | with_reducible assumption | lia) | ((with_reducible refine zC2 (d := 14) ⟨by decide, by decide⟩ ?_ ?_ ?_) <;> first | with_reducible assumption | lia) | ((with_reducible refine zC3 ?_ ?_ ?_) <;> first | with_reducible assumption | lia) | ((with_reducible refine zC4 ?_ ?_) <;> first | with_reducible assumption | lia) | ((try clear hback_4); (try clear hback_6); first | lia | grind [zu_at, zu_atL, zvn])) (by (try dsimp only); ((try clear hback_4); (try clear hback_6); first | lia | grind [zu_at, zu_atL, zvn])) (by (try dsimp only); ((try clear hback_4); (try clear hback_6); first | lia | grind [zu_at, zu_atL, zvn]))
  refine zw_zg32 8 (by decide) (by (try dsimp only); ((try clear hback_4); (try clear hback_6); first | lia | grind [zu_at, zu_atL, zvn])) ?_
  refine zw_zg32 8 (by decide) (by (try dsimp only); ((try clear hback_4); (try clear hback_6); first | lia | grind [zu_at, zu_atL, zvn])) ?_
  refine zw_zn1 ?_
  refine zw_zn1 ?_
  refine zw_zn1 ?_
  refine zw_zn1 ?_
  exact hback_4 _ (by (try dsimp only); (repeat' apply And.intro) <;> first | with_reducible assumption | with_reducible exact fun _ => Or.inl rfl | with_reducible exact fun _ _ _ => rfl | with_reducible exact fun _ _ h => Or.inl h | with_reducible rfl | ((with_reducible refine zU1 ?_) <;> grind [z32_in]) | with_reducible exact zU1m | ((with_reducible refine zU4 ?_) <;> ((try clear hback_4); (try clear hback_6); lia)) | ((with_reducible refine zU3 ?_) <;> ((try clear hback_4); (try clear hback_6); lia)) | ((with_reducible refine zU6 ?_) <;> ((try clear hback_4); (try clear hback_6); lia)) | ((with_reducible refine zU8 ⟨?_, ?_⟩) <;> ((try clear hback_4); (try clear hback_6); first | lia | grind)) | ((with_reducible refine zO1 ?_) <;> with_reducible assumption) | ((with_reducible refine zO2 ?_) <;> with_reducible assumption) | ((with_reducible refine zU7 ?_ ⟨?_, ?_⟩) <;> first | with_reducible assumption | lia | grind) | ((with_reducible refine zC1 (d := 4) ⟨by decide, by decide⟩ ?_ ?_ ?_ ?_) <;> first | with_reducible assumption | lia) | ((with_reducible refine zC2 (d := 4) ⟨by decide, by decide⟩ ?_ ?_ ?_) <;> first | with_reducible assumption | lia) | ((with_reducible refine zC1 (d := 14) ⟨by decide, by decide⟩ ?_ ?_ ?_ ?_) <;> first | with_reducible assumption | lia) | ((with_reducible refine zC2 (d := 14) ⟨by decide, by decide⟩ ?_ ?_ ?_) <;> first | with_reducible assumption | lia) | ((with_reducible refine zC3 ?_ ?_ ?_) <;> first | with_reducible assumption | lia) | ((with_reducible refine zC4 ?_ ?_) <;> first | with_reducible assumption | lia) | ((try clear hback_4); (try clear hback_6); first | lia | grind [zu_at, zu_atL, zvn])) (by (try dsimp only); ((try clear hback_4); (try clear hback_6); first | lia | grind [zu_at, zu_atL, zvn])) (by (try dsimp only); ((try clear hback_4); (try clear hback_6); first | lia | grind [zu_at, zu_atL, zvn]))
set_option maxHeartbeats 4000000 in
set_option maxRecDepth 100000 in
theorem sf_X12_beginsChoice (f1 : Nat → Int32) (f2 : Nat → Int32) (f3 : Nat → Int32) (f4 : Nat → Int32) (h_f1 : (∀ i : Nat, 0 ≤ f1 i ∧ f1 i ≤ 14)) (h_f2 : (∀ i : Nat, 0 ≤ f2 i ∧ f2 i ≤ 3)) (h_f3 : (∀ i : Nat, (-1) ≤ f3 i ∧ f3 i ≤ 3)) (h_f4 : (∀ i : Nat, 0 ≤ f4 i ∧ f4 i ≤ 13)) : zw (fn_X12_beginsChoice f1 f2 f3 f4) (fun r => 0 ≤ r.1 ∧ r.1 ≤ 1 ∧ (∀ i : Nat, 0 ≤ r.2 i ∧ r.2 i ≤ 3) ∧ r.1 ≤ (f1 (0 : Int32).toNatClampNeg) + 1 ∧ (∀ i : Nat, r.2 i = f2 i ∨ r.2 i = 0 ∨ ∃ k : Int32, 0 ≤ k ∧ k < f1 (0 : Int32).toNatClampNeg ∧ ¬ f3 k.toNatClampNeg = (-1) ∧ r.2 i = f3 k.toNatClampNeg)) := by
  unfold fn_X12_beginsChoice
  refine zw_zl32 (fun s_1 => (∀ i : Nat, s_1.2 i = f2 i ∨ s_1.2 i = 0 ∨ ∃ k : Int32, 0 ≤ k ∧ k < f1 (0 : Int32).toNatClampNeg ∧ ¬ f3 k.toNatClampNeg = (-1) ∧ s_1.2 i = f3 k.toNatClampNeg) ∧ (∀ i : Nat, 0 ≤ s_1.2 i ∧ s_1.2 i ≤ 3) ∧ 0 ≤ s_1.1 ∧ s_1.1 ≤ 14) (fun s_1 => 14 - s_1.1) (by (try dsimp only); (repeat' apply And.intro) <;> first | with_reducible assumption | first | lia | grind [zu_at, zu_atL, zvn]) (by (try dsimp only); first | lia | grind [zu_at, zu_atL, zvn]) (fun s_1 back_1 Hback_1 hback_1 => ?_)
  obtain ⟨s_1_0, s_1_1⟩ := s_1
  try dsimp only at Hback_1 hback_1
  obtain ⟨Hback_1_0, Hback_1_1, Hback_1_2, Hback_1_3⟩ := Hback_1
  refine zw_if (fun c1 => ?_) (fun c1 => ?_)
  · refine zw_zl32 (fun s_3 => (∀ i : Nat, s_3.2.2 i = f2 i ∨ s_3.2.2 i = 0 ∨ ∃ k : Int32, 0 ≤ k ∧ k < f1 (0 : Int32).toNatClampNeg ∧ ¬ f3 k.toNatClampNeg = (-1) ∧ s_3.2.2 i = f3 k.toNatClampNeg) ∧ (∀ i : Nat, 0 ≤ s_3.2.2 i ∧ s_3.2.2 i ≤ 3) ∧ 0 ≤ s_3.1 ∧ s_3.1 ≤ 14 ∧ 0 ≤ s_3.2.1 ∧ s_3.2.1 ≤ 1 ∧ s_3.1 ≤ s_1_0 ∧ s_3.1 ≤ (f1 (0 : Int32).toNatClampNeg)) (fun s_3 => 14 - s_3.1) (by (try dsimp only); (repeat' apply And.intro) <;> first | with_reducible assumption | ((try clear hback_1); first | lia | grind [zu_at, zu_atL, zvn])) (by (try dsimp only); ((try clear hback_1); first | lia | grind [zu_at, zu_atL, zvn])) (fun s_3 back_3 Hback_3 hback_3 => ?_)
    obtain ⟨s_3_0, s_3_1, s_3_2⟩ := s_3
    try dsimp only at Hback_3 hback_3
    obtain ⟨Hback_3_0, Hback_3_1, Hback_3_2, Hback_3_3, Hback_3_4, Hback_3_5, Hback_3_6, Hback_3_7⟩ := Hback_3
    refine zw_if (fun c2 => ?_) (fun c2 => ?_)
    · refine zw_some ?_
      first | exact True.intro | ((try dsimp only); (repeat' apply And.intro) <;> first | with_reducible assumption | ((try clear hback_1); (try clear hback_3); first | lia | grind [zu_at, zu_atL, zvn]))
    refine zw_zg32 28 (by decide) (by (try dsimp only); ((try clear hback_1); (try clear hback_3); first | lia | grind [zu_at, zu_atL, zvn])) ?_
    refine zw_if (fun c3 => ?_) (fun c3 => ?_)
    · exact hback_3 _ (by (try dsimp only); (repeat' apply And.intro) <;> first | with_reducible assumption | ((try clear hback_1); (try clear hback_3); first | lia | grind [zu_at, zu_atL, zvn])) (by (try dsimp only); ((try clear hback_1); (try clear hback_3); first | lia | grind [zu_at, zu_atL, zvn])) (by (try dsimp only); ((try clear hback_1); (try clear hback_3); first | lia | grind [zu_at, zu_atL, zvn]))
    refine zw_zl32 (fun s_7 => (∀ i : Nat, s_7.2.2 i = f2 i ∨ s_7.2.2 i = 0 ∨ ∃ k : Int32, 0 ≤ k ∧ k < f1 (0 : Int32).toNatClampNeg ∧ ¬ f3 k.toNatClampNeg = (-1) ∧ s_7.2.2 i = f3 k.toNatClampNeg) ∧ (∀ i : Nat, 0 ≤ s_7.2.2 i ∧ s_7.2.2 i ≤ 3) ∧ 0 ≤ s_7.1 ∧ s_7.1 ≤ 14 ∧ 0 ≤ s_7.2.1 ∧ s_7.2.1 ≤ 1 ∧ s_7.1 ≤ s_1_0 ∧ s_7.2.1 ≤ s_3_1 ∧ s_7.1 ≤ (f1 (0 : Int32).toNatClampNeg)) (fun s_7 => 14 - s_7.1) (by (try dsimp only); (repeat' apply And.intro) <;> first | with_reducible assumption | ((try clear hback_1); (try clear hback_3); first | lia | grind [zu_at, zu_atL, zvn])) (by (try dsimp only); ((try clear hback_1); (try clear hback_3); first | lia | grind [zu_at, zu_atL, zvn])) (fun s_7 back_7 Hback_7 hback_7 => ?_)
    obtain ⟨s_7_0, s_7_1, s_7_2⟩ := s_7
    try dsimp only at Hback_7 hback_7
    obtain ⟨Hback_7_0, Hback_7_1, Hback_7_2, Hback_7_3, Hback_7_4, Hback_7_5, Hback_7_6, Hback_7_7, Hback_7_8⟩ := Hback_7
    refine zw_if (fun c4 => ?_) (fun c4 => ?_)
    · exact hback_3 _ (by (try dsimp only); (repeat' apply And.intro) <;> first | with_reducible assumption | ((try clear hback_1); (try clear hback_3); (try clear hback_7); first | lia | grind [zu_at, zu_atL, zvn])) (by (try dsimp only); ((try clear hback_1); (try clear hback_3); (try clear hback_7); first | lia | grind [zu_at, zu_atL, zvn])) (by (try dsimp only); ((try clear hback_1); (try clear hback_3); (try clear hback_7); first | lia | grind [zu_at, zu_atL, zvn]))
    refine zw_zg32 28 (by decide) (by (try dsimp only); ((try clear hback_1); (try clear hback_3); (try clear hback_7); first | lia | grind [zu_at, zu_atL, zvn])) ?_
    refine zw_zg32 28 (by decide) (by (try dsimp only); ((try clear hback_1); (try clear hback_3); (try clear hback_7); first | lia | grind [zu_at, zu_atL, zvn])) ?_
    refine zw_if (fun c5 => ?_) (fun c5 => ?_)
    · refine zw_zg32 14 (by decide) (by (try dsimp only); ((try clear hback_1); (try clear hback_3); (try clear hback_7); first | lia | grind [zu_at, zu_atL, zvn])) ?_
      refine zw_if (fun c6 => ?_) (fun c6 => ?_)
      · exact hback_7 _ (by (try dsimp only); (repeat' apply And.intro) <;> first | with_reducible assumption | ((try clear hback_1); (try clear hback_3); (try clear hback_7); first | lia | grind [zu_at, zu_atL, zvn])) (by (try dsimp only); ((try clear hback_1); (try clear hback_3); (try clear hback_7); first | lia | grind [zu_at, zu_atL, zvn])) (by (try dsimp only); ((try clear hback_1); (try clear hback_3); (try clear hback_7); first | lia | grind [zu_at, zu_atL, zvn]))
      refine zw_if (fun c7 => ?_) (fun c7 => ?_)
      · exact hback_7 _ (by (try dsimp only); (repeat' apply And.intro) <;> first | with_reducible assumption | ((try clear hback_1); (try clear hback_3); (try clear hback_7); first | lia | grind [zu_at, zu_atL, zvn])) (by (try dsimp only); ((try clear hback_1); (try clear hback_3); (try clear hback_7); first | lia | grind [zu_at, zu_atL, zvn])) (by (try dsimp only); ((try clear hback_1); (try clear hback_3); (try clear hback_7); first | lia | grind [zu_at, zu_atL, zvn]))
      refine zw_if (fun c8 => ?_) (fun c8 => ?_)
      · exact hback_7 _ (by (try dsimp only); (repeat' apply And.intro) <;> first | with_reducible assumption | ((try clear hback_1); (try clear hback_3); (try clear hback_7); first | lia | grind [zu_at, zu_atL, zvn])) (by (try dsimp only); ((try clear hback_1); (try clear hback_3); (try clear hback_7); first | lia | grind [zu_at, zu_atL, zvn])) (by (try dsimp only); ((try clear hback_1); (try clear hback_3); (try clear hback_7); first | lia | grind [zu_at, zu_atL, zvn]))
      exact hback_7 _ (by (try dsimp only); (repeat' apply And.intro) <;> first | with_reducible assumption | ((try clear hback_1); (try clear hback_3); (try clear hback_7); first | lia | grind [zu_at, zu_atL, zvn])) (by (try dsimp only); ((try clear hback_1); (try clear hback_3); (try clear hback_7); first | lia | grind [zu_at, zu_atL, zvn])) (by (try dsimp only); ((try clear hback_1); (try clear hback_3); (try clear hback_7); first | lia | grind [zu_at, zu_atL, zvn]))
    exact hback_7 _ (by (try dsimp only); (repeat' apply And.intro) <;> first | with_reducible assumption | ((try clear hback_1); (try clear hback_3); (try clear hback_7); first | lia | grind [zu_at, zu_atL, zvn])) (by (try dsimp only); ((try clear hback_1); (try clear hback_3); (try clear hback_7); first | lia | grind [zu_at, zu_atL, zvn])) (by (try dsimp only); ((try clear hback_1); (try clear hback_3); (try clear hback_7); first | lia | grind [zu_at, zu_atL, zvn]))
  refine zw_zg32 14 (by decide) (by (try dsimp only); ((try clear hback_1); (try clear hback_3); (try clear hback_7); first | lia | grind [zu_at, zu_atL, zvn])) ?_
  exact hback_1 _ (by (try dsimp only); (repeat' apply And.intro) <;> first | with_reducible assumption | ((try clear hback_1); (try clear hback_3); (try clear hback_7); first | lia | grind [zu_at, zu_atL, zvn])) (by (try dsimp only); ((try clear hback_1); (try clear hback_3); (try clear hback_7); first | lia | grind [zu_at, zu_atL, zvn])) (by (try dsimp only); ((try clear hback_1); (try clear hback_3); (try clear hback_7); first | lia | grind [zu_at, zu_atL, zvn]))
set_option maxHeartbeats 4000000 in
set_option maxRecDepth 100000 in
theorem sf_X12_task (v0_1 : Int32) (v0_7 : Int32) (w0_28 : Int64) (v0_38 : Int32) (v0_58 : Int32) (v0_59 : Int32) (f1 : Nat → Int32) (f2 : Nat → Int32) (f3 : Nat → Int32) (f4 : Nat → Int32) (f5 : Nat → Int32) (f6 : Nat → Int32) (f7 : Nat → Int32) (f8 : Nat → Int32) (f9 : Nat → Int32) (f10 : Nat → Int32) (f11 : Nat → Int32) (f12 : Nat → Int32) (f13 : Nat → Int32) (f14 : Nat → Int32) (f15 : Nat → Int32) (f16 : Nat → Int32) (f17 : Nat → Int64) (f18 : Nat → Int64) (f19 : Nat → Int32) (f20 : Nat → Int32) (h_v0_1 : 0 ≤ v0_1 ∧ v0_1 ≤ 1200) (h_v0_7 : 0 ≤ v0_7 ∧ v0_7 ≤ 1200) (h_v0_38 : 0 ≤ v0_38 ∧ v0_38 ≤ 1) (h_f1 : (∀ i : Nat, 0 ≤ f1 i ∧ f1 i ≤ 4)) (h_f2 : (∀ i : Nat, 0 ≤ f2 i ∧ f2 i ≤ 14)) (h_f4 : (∀ i : Nat, 0 ≤ f4 i ∧ f4 i ≤ 255)) (h_f13 : (∀ i : Nat, (-1) ≤ f13 i ∧ f13 i ≤ 13)) (h_f14 : (∀ i : Nat, (-1) ≤ f14 i ∧ f14 i ≤ 13)) (h_f15 : (∀ i : Nat, (-1) ≤ f15 i ∧ f15 i ≤ 3)) (h_f16 : (∀ i : Nat, 0 ≤ f16 i ∧ f16 i ≤ 13)) (h_f19 : (∀ i : Nat, 0 ≤ f19 i ∧ f19 i ≤ 3)) (hx_0 : (∀ k : Nat, k < 71 → f5 k = zTab k)) (hx_1 : (∀ x : Int32, 0 ≤ x → x < 4 → 1 ≤ f8 x.toNatClampNeg → 1 ≤ f8 (4 + x).toNatClampNeg)) : zw (fn_X12_task v0_1 v0_7 w0_28 v0_38 v0_58 v0_59 f1 f2 f3 f4 f5 f6 f7 f8 f9 f10 f11 f12 f13 f14 f15 f16 f17 f18 f19 f20) (fun r => 0 ≤ r.2.1 ∧ r.2.1 ≤ 1200 ∧ 0 ≤ r.2.2.1 ∧ r.2.2.1 ≤ 1 ∧ 0 ≤ r.2.2.2.2.2.1 ∧ r.2.2.2.2.2.1 ≤ 1 ∧ 0 ≤ r.2.2.2.2.2.2.2.1 ∧ r.2.2.2.2.2.2.2.1 ≤ 1200 ∧ 0 ≤ r.2.2.2.2.2.2.2.2.2.2.1 ∧ r.2.2.2.2.2.2.2.2.2.2.1 ≤ 1200 ∧ 0 ≤ r.2.2.2.2.2.2.2.2.2.2.2.1 ∧ r.2.2.2.2.2.2.2.2.2.2.2.1 ≤ 1200 ∧ 0 ≤ r.2.2.2.2.2.2.2.2.2.2.2.2.1 ∧ r.2.2.2.2.2.2.2.2.2.2.2.2.1 ≤ 4 ∧ (∀ i : Nat, 0 ≤ r.2.2.2.2.2.2.2.2.2.2.2.2.2.2.1 i ∧ r.2.2.2.2.2.2.2.2.2.2.2.2.2.2.1 i ≤ 4) ∧ (∀ i : Nat, 0 ≤ r.2.2.2.2.2.2.2.2.2.2.2.2.2.2.2.1 i ∧ r.2.2.2.2.2.2.2.2.2.2.2.2.2.2.2.1 i ≤ 14) ∧ (∀ i : Nat, (-1) ≤ r.2.2.2.2.2.2.2.2.2.2.2.2.2.2.2.2.2.2.2.2.2.2.2.2.1 i ∧ r.2.2.2.2.2.2.2.2.2.2.2.2.2.2.2.2.2.2.2.2.2.2.2.2.1 i ≤ 13) ∧ (∀ i : Nat, (-1) ≤ r.2.2.2.2.2.2.2.2.2.2.2.2.2.2.2.2.2.2.2.2.2.2.2.2.2.1 i ∧ r.2.2.2.2.2.2.2.2.2.2.2.2.2.2.2.2.2.2.2.2.2.2.2.2.2.1 i ≤ 13) ∧ (∀ i : Nat, (-1) ≤ r.2.2.2.2.2.2.2.2.2.2.2.2.2.2.2.2.2.2.2.2.2.2.2.2.2.2.1 i ∧ r.2.2.2.2.2.2.2.2.2.2.2.2.2.2.2.2.2.2.2.2.2.2.2.2.2.2.1 i ≤ 3) ∧ (∀ i : Nat, 0 ≤ r.2.2.2.2.2.2.2.2.2.2.2.2.2.2.2.2.2.2.2.2.2.2.2.2.2.2.2.1 i ∧ r.2.2.2.2.2.2.2.2.2.2.2.2.2.2.2.2.2.2.2.2.2.2.2.2.2.2.2.1 i ≤ 13) ∧ (∀ i : Nat, 0 ≤ r.2.2.2.2.2.2.2.2.2.2.2.2.2.2.2.2.2.2.2.2.2.2.2.2.2.2.2.2.2.2.1 i ∧ r.2.2.2.2.2.2.2.2.2.2.2.2.2.2.2.2.2.2.2.2.2.2.2.2.2.2.2.2.2.2.1 i ≤ 3) ∧ (-1) ≤ r.1 ∧ 0 ≤ r.2.2.2.2.1 ∧ r.1 ≤ 14 ∧ r.2.1 ≤ 0 ∧ r.2.2.1 ≤ 0 ∧ r.2.2.2.2.1 ≤ 4 ∧ (r.1 = (-1) → 1 ≤ r.2.2.2.2.1 ∧ 1 ≤ r.2.2.2.2.2.2.2.2.2.2.2.2.1) ∧ (¬ r.1 = (-1) → 0 ≤ r.1 ∧ (-1) ≤ r.2.2.2.2.2.2.2.2.1 ∧ (-1) ≤ r.2.2.2.2.2.2.2.2.2.1 ∧ r.2.2.2.2.1 ≤ 0 ∧ r.2.2.2.2.2.2.2.2.1 ≤ (-1) ∧ r.2.2.2.2.2.2.2.2.2.1 ≤ (-1) ∧ r.2.2.2.2.2.2.2.2.2.2.2.2.1 ≤ 0) ∧ (∀ x : Int32, 0 ≤ x → x < 4 → 1 ≤ r.2.2.2.2.2.2.2.2.2.2.2.2.2.2.2.2.2.2.2.1 x.toNatClampNeg → 1 ≤ r.2.2.2.2.2.2.2.2.2.2.2.2.2.2.2.2.2.2.2.1 (4 + x).toNatClampNeg) ∧ (∀ x : Int32, 0 ≤ x → x < 4 → 1 ≤ f8 x.toNatClampNeg → 1 ≤ r.2.2.2.2.2.2.2.2.2.2.2.2.2.2.2.2.2.2.2.1 x.toNatClampNeg) ∧ (r.1 = (-1) → r.2.2.2.2.2.2.2.2.2.2.2.2.2.2.2.1 (0 : Int32).toNatClampNeg = f2 (0 : Int32).toNatClampNeg ∧ r.2.2.2.2.2.2.2.2.2.2.2.2.2.2.1 (0 : Int32).toNatClampNeg = f1 (0 : Int32).toNatClampNeg ∧ (∀ x : Int32, 0 ≤ x → x < 4 → r.2.2.2.2.2.2.2.2.2.2.2.2.2.2.2.2.2.2.2.1 x.toNatClampNeg = f8 x.toNatClampNeg) ∧ (∀ i : Nat, r.2.2.2.2.2.2.2.2.2.2.2.2.2.2.2.2.2.2.2.2.2.2.2.2.2.2.2.2.2.2.1 i = f19 i)) ∧ (¬ r.1 = (-1) → 1 ≤ r.2.2.2.2.2.2.2.2.2.2.2.2.2.2.1 (0 : Int32).toNatClampNeg ∧ (∀ x : Int32, 0 ≤ x → x < r.2.2.2.2.2.2.2.2.2.2.2.2.2.2.1 (0 : Int32).toNatClampNeg → 1 ≤ r.2.2.2.2.2.2.2.2.2.2.2.2.2.2.2.2.2.2.2.1 x.toNatClampNeg) ∧ (∀ i : Nat, r.2.2.2.2.2.2.2.2.2.2.2.2.2.2.2.2.2.2.2.2.2.2.2.2.2.2.2.2.2.2.1 i = f19 i ∨ 1 ≤ r.2.2.2.2.2.2.2.2.2.2.2.2.2.2.2.2.2.2.2.1 (r.2.2.2.2.2.2.2.2.2.2.2.2.2.2.2.2.2.2.2.2.2.2.2.2.2.2.2.2.2.2.1 i).toNatClampNeg)) ∧ r.2.1 = 0) := by
  unfold fn_X12_task
  refine zw_zl32 (fun s_1 => (s_1.1 ≤ 40 ∨ ¬ s_1.2.2.2.2.1 = 0) ∧ (∀ x : Int32, 0 ≤ x → x < s_1.2.2.2.2.2.2.1 (1 : Int32).toNatClampNeg → 1 ≤ s_1.2.2.2.2.2.2.2.2.1 (4 + x).toNatClampNeg) ∧ (∀ k : Int32, 0 ≤ k → k < s_1.2.2.2.2.2.2.2.2.2.2.2.1 (1 : Int32).toNatClampNeg → s_1.2.2.2.2.2.2.2.2.2.2.2.2.2.2.2.2.2.2.2.1 (14 + k).toNatClampNeg = (-1) ∨ 0 ≤ s_1.2.2.2.2.2.2.2.2.2.2.2.2.2.2.2.2.2.2.2.1 (14 + k).toNatClampNeg ∧ 1 ≤ s_1.2.2.2.2.2.2.2.2.1 (4 + s_1.2.2.2.2.2.2.2.2.2.2.2.2.2.2.2.2.2.2.2.1 (14 + k).toNatClampNeg).toNatClampNeg) ∧ (∀ x : Int32, 0 ≤ x → x < 4 → 1 ≤ s_1.2.2.2.2.2.2.2.2.1 x.toNatClampNeg → 1 ≤ s_1.2.2.2.2.2.2.2.2.1 (4 + x).toNatClampNeg) ∧ (∀ x : Int32, 0 ≤ x → x < 4 → s_1.2.2.2.2.2.2.2.2.1 x.toNatClampNeg = f8 x.toNatClampNeg) ∧ s_1.2.2.2.2.2.2.1 (0 : Int32).toNatClampNeg = f1 (0 : Int32).toNatClampNeg ∧ s_1.2.2.2.2.2.2.2.2.2.2.2.1 (0 : Int32).toNatClampNeg = f2 (0 : Int32).toNatClampNeg ∧ (∀ i : Nat, 0 ≤ s_1.2.2.2.2.2.2.1 i ∧ s_1.2.2.2.2.2.2.1 i ≤ 4) ∧ (∀ i : Nat, 0 ≤ s_1.2.2.2.2.2.2.2.2.2.2.2.1 i ∧ s_1.2.2.2.2.2.2.2.2.2.2.2.1 i ≤ 14) ∧ (∀ i : Nat, (-1) ≤ s_1.2.2.2.2.2.2.2.2.2.2.2.2.2.2.1 i ∧ s_1.2.2.2.2.2.2.2.2.2.2.2.2.2.2.1 i ≤ 13) ∧ (∀ i : Nat, (-1) ≤ s_1.2.2.2.2.2.2.2.2.2.2.2.2.2.2.2.1 i ∧ s_1.2.2.2.2.2.2.2.2.2.2.2.2.2.2.2.1 i ≤ 13) ∧ (∀ i : Nat, (-1) ≤ s_1.2.2.2.2.2.2.2.2.2.2.2.2.2.2.2.2.2.2.2.1 i ∧ s_1.2.2.2.2.2.2.2.2.2.2.2.2.2.2.2.2.2.2.2.1 i ≤ 3) ∧ (∀ i : Nat, 0 ≤ s_1.2.2.2.2.2.2.2.2.2.2.2.2.2.2.2.2.2.2.2.2.2 i ∧ s_1.2.2.2.2.2.2.2.2.2.2.2.2.2.2.2.2.2.2.2.2.2 i ≤ 13) ∧ 0 ≤ s_1.1 ∧ s_1.1 ≤ 41 ∧ 0 ≤ s_1.2.2.1 ∧ s_1.2.2.1 ≤ 1200 ∧ 0 ≤ s_1.2.2.2.1 ∧ s_1.2.2.2.1 ≤ 1200 ∧ 0 ≤ s_1.2.2.2.2.1 ∧ s_1.2.2.2.2.1 ≤ 4 ∧ s_1.2.2.2.2.1 ≤ v0_1 + 3 ∧ s_1.2.2.2.2.1 ≤ s_1.1 + 3) (fun s_1 => 41 - s_1.1) (by (try dsimp only); (repeat' apply And.intro) <;> first | with_reducible assumption | with_reducible exact fun _ => Or.inl rfl | with_reducible exact fun _ _ _ => rfl | with_reducible exact fun _ _ h => Or.inl h | with_reducible rfl | ((with_reducible refine zU1 ?_) <;> grind [z32_in]) | with_reducible exact zU1m | ((with_reducible refine zU4 ?_) <;> lia) | ((with_reducible refine zU3 ?_) <;> lia) | ((with_reducible refine zU6 ?_) <;> lia) | ((with_reducible refine zU8 ⟨?_, ?_⟩) <;> first | lia | grind) | ((with_reducible refine zO1 ?_) <;> with_reducible assumption) | ((with_reducible refine zO2 ?_) <;> with_reducible assumption) | ((with_reducible refine zU7 ?_ ⟨?_, ?_⟩) <;> first | with_reducible assumption | lia | grind) | ((with_reducible refine zC1 (d := 4) ⟨by decide, by decide⟩ ?_ ?_ ?_ ?_) <;> first | with_reducible assumption | lia) | ((with_reducible refine zC2 (d := 4) ⟨by decide, by decide⟩ ?_ ?_ ?_) <;> first | with_reducible assumption | lia) | ((with_reducible refine zC1 (d := 14) ⟨by decide, by decide⟩ ?_ ?_ ?_ ?_) <;> first | with_reducible assumption | lia) | ((with_reducible refine zC2 (d := 14) ⟨by decide, by decide⟩ ?_ ?_ ?_) <;> first | with_reducible assumption | lia) | ((with_reducible refine zC3 ?_ ?_ ?_) <;> first | with_reducible assumption | lia) | ((with_reducible refine zC4 ?_ ?_) <;> first | with_reducible assumption | lia) | exact fun _ => zTk3 ho_13_6 Hback_1_7 ho_13_8 Hback_1_1 ho_13_7 Hback_1_8 ho_13_9 Hback_1_2 Hback_1_11 (by with_reducible assumption) (Hj_11_0 c1).1 | first | lia | grind [zu_at, zu_atL, zvn]) (by (try dsimp only); first | lia | grind [zu_at, zu_atL, zvn]) (fun s_1 back_1 Hback_1 hback_1 => ?_)
  obtain ⟨s_1_0, s_1_1, s_1_2, s_1_3, s_1_4, s_1_5, s_1_6, s_1_7, s_1_8, s_1_9, s_1_10, s_1_11, s_1_12, s_1_13, s_1_14, s_1_15, s_1_16, s_1_17, s_1_18, s_1_19, s_1_20, s_1_21⟩ := s_1
  try dsimp only at Hback_1 hback_1
  obtain ⟨Hback_1_0, Hback_1_1, Hback_1_2, Hback_1_3, Hback_1_4, Hback_1_5, Hback_1_6, Hback_1_7, Hback_1_8, Hback_1_9, Hback_1_10, Hback_1_11, Hback_1_12, Hback_1_13, Hback_1_14, Hback_1_15, Hback_1_16, Hback_1_17, Hback_1_18, Hback_1_19, Hback_1_20, Hback_1_21, Hback_1_22⟩ := Hback_1
  refine zw_zb0 (sf_X12_goesWell s_1_4 (by first | with_reducible assumption | exact ⟨by with_reducible assumption, by with_reducible assumption⟩ | ((try clear hback_1); first | lia | grind [zu_at, zu_atL, zvn]))) (fun o_2 ho_2 => ?_)
  obtain ⟨ho_2_0, ho_2_1, ho_2_2, ho_2_3, ho_2_4, ho_2_5⟩ := ho_2
  refine zw_zj (fun s_6 => 0 ≤ s_6 ∧ s_6 ≤ 1200 ∧ s_1_2 ≤ s_6) (fun s_6 Hj_6 => ?_) (fun j_6 hj_6 => ?_)
  · obtain ⟨Hj_6_0, Hj_6_1, Hj_6_2⟩ := Hj_6
    refine zw_zb0 (sf_X12_goesWell s_1_4 (by first | with_reducible assumption | exact ⟨by with_reducible assumption, by with_reducible assumption⟩ | ((try clear hback_1); (try clear hj_6); first | lia | grind [zu_at, zu_atL, zvn]))) (fun o_7 ho_7 => ?_)
    obtain ⟨ho_7_0, ho_7_1, ho_7_2, ho_7_3, ho_7_4, ho_7_5⟩ := ho_7
    refine zw_zj (fun s_11 => (s_11.1 = 0 → 1 ≤ s_1_6 (1 : Int32).toNatClampNeg ∧ 1 ≤ s_1_11 (1 : Int32).toNatClampNeg) ∧ 0 ≤ s_11.1 ∧ s_11.1 ≤ 4 ∧ s_1_4 ≤ s_11.1) (fun s_11 Hj_11 => ?_) (fun j_11 hj_11 => ?_)
    · obtain ⟨s_11_0, s_11_1⟩ := s_11
      try dsimp only at Hj_11
      obtain ⟨Hj_11_0, Hj_11_1, Hj_11_2, Hj_11_3⟩ := Hj_11
      refine zw_if (fun c1 => ?_) (fun c1 => ?_)
      · refine zw_zb0 (sf_X12_copiesTask s_1_6 s_1_11 s_1_18 s_1_7 s_1_8 s_1_9 s_1_10 s_1_12 s_1_13 s_1_14 s_1_15 s_1_16 s_1_17 s_1_19 s_1_20 s_1_21 (by first | with_reducible assumption | exact ⟨by with_reducible assumption, by with_reducible assumption⟩ | ((try clear hback_1); (try clear hj_6); (try clear hj_11); first | lia | grind [zu_at, zu_atL, zvn])) (by first | with_reducible assumption | exact ⟨by with_reducible assumption, by with_reducible assumption⟩ | ((try clear hback_1); (try clear hj_6); (try clear hj_11); first | lia | grind [zu_at, zu_atL, zvn])) (by first | with_reducible assumption | exact ⟨by with_reducible assumption, by with_reducible assumption⟩ | ((try clear hback_1); (try clear hj_6); (try clear hj_11); first | lia | grind [zu_at, zu_atL, zvn])) (by first | with_reducible assumption | exact ⟨by with_reducible assumption, by with_reducible assumption⟩ | ((try clear hback_1); (try clear hj_6); (try clear hj_11); first | lia | grind [zu_at, zu_atL, zvn])) (by first | with_reducible assumption | exact ⟨by with_reducible assumption, by with_reducible assumption⟩ | ((try clear hback_1); (try clear hj_6); (try clear hj_11); first | lia | grind [zu_at, zu_atL, zvn])) (by first | with_reducible assumption | exact ⟨by with_reducible assumption, by with_reducible assumption⟩ | ((try clear hback_1); (try clear hj_6); (try clear hj_11); first | lia | grind [zu_at, zu_atL, zvn]))) (fun o_13 ho_13 => ?_)
        obtain ⟨o_13_0, o_13_1, o_13_2, o_13_3, o_13_4, o_13_5, o_13_6, o_13_7, o_13_8, o_13_9, o_13_10, o_13_11, o_13_12, o_13_13, o_13_14, o_13_15⟩ := o_13
        try dsimp only at ho_13
        obtain ⟨ho_13_0, ho_13_1, ho_13_2, ho_13_3, ho_13_4, ho_13_5, ho_13_6, ho_13_7, ho_13_8, ho_13_9⟩ := ho_13
        refine zw_zb0 (sf_X12_beginsChoice o_13_1 f19 o_13_13 o_13_15 (by first | with_reducible assumption | exact ⟨by with_reducible assumption, by with_reducible assumption⟩ | ((try clear hback_1); (try clear hj_6); (try clear hj_11); first | lia | grind [zu_at, zu_atL, zvn])) (by first | with_reducible assumption | exact ⟨by with_reducible assumption, by with_reducible assumption⟩ | ((try clear hback_1); (try clear hj_6); (try clear hj_11); first | lia | grind [zu_at, zu_atL, zvn])) (by first | with_reducible assumption | exact ⟨by with_reducible assumption, by with_reducible assumption⟩ | ((try clear hback_1); (try clear hj_6); (try clear hj_11); first | lia | grind [zu_at, zu_atL, zvn])) (by first | with_reducible assumption | exact ⟨by with_reducible assumption, by with_reducible assumption⟩ | ((try clear hback_1); (try clear hj_6); (try clear hj_11); first | lia | grind [zu_at, zu_atL, zvn]))) (fun o_17 ho_17 => ?_)
        obtain ⟨o_17_0, o_17_1⟩ := o_17
        try dsimp only at ho_17
        obtain ⟨ho_17_0, ho_17_1, ho_17_2, ho_17_3, ho_17_4⟩ := ho_17
        refine zw_some ?_
        first | exact True.intro | ((try dsimp only); (repeat' apply And.intro) <;> first | with_reducible assumption | with_reducible exact fun _ => Or.inl rfl | with_reducible exact fun _ _ _ => rfl | with_reducible exact fun _ _ h => Or.inl h | with_reducible rfl | ((with_reducible refine zU1 ?_) <;> grind [z32_in]) | with_reducible exact zU1m | ((with_reducible refine zU4 ?_) <;> ((try clear hback_1); (try clear hj_6); (try clear hj_11); lia)) | ((with_reducible refine zU3 ?_) <;> ((try clear hback_1); (try clear hj_6); (try clear hj_11); lia)) | ((with_reducible refine zU6 ?_) <;> ((try clear hback_1); (try clear hj_6); (try clear hj_11); lia)) | ((with_reducible refine zU8 ⟨?_, ?_⟩) <;> ((try clear hback_1); (try clear hj_6); (try clear hj_11); first | lia | grind)) | ((with_reducible refine zO1 ?_) <;> with_reducible assumption) | ((with_reducible refine zO2 ?_) <;> with_reducible assumption) | ((with_reducible refine zU7 ?_ ⟨?_, ?_⟩) <;> first | with_reducible assumption | lia | grind) | ((with_reducible refine zC1 (d := 4) ⟨by decide, by decide⟩ ?_ ?_ ?_ ?_) <;> first | with_reducible assumption | lia) | ((with_reducible refine zC2 (d := 4) ⟨by decide, by decide⟩ ?_ ?_ ?_) <;> first | with_reducible assumption | lia) | ((with_reducible refine zC1 (d := 14) ⟨by decide, by decide⟩ ?_ ?_ ?_ ?_) <;> first | with_reducible assumption | lia) | ((with_reducible refine zC2 (d := 14) ⟨by decide, by decide⟩ ?_ ?_ ?_) <;> first | with_reducible assumption | lia) | ((with_reducible refine zC3 ?_ ?_ ?_) <;> first | with_reducible assumption | lia) | ((with_reducible refine zC4 ?_ ?_) <;> first | with_reducible assumption | lia) | exact fun _ => zTk3 ho_13_6 Hback_1_7 ho_13_8 Hback_1_1 ho_13_7 Hback_1_8 ho_13_9 Hback_1_2 Hback_1_11 (by with_reducible assumption) (Hj_11_0 c1).1 | ((try clear hback_1); (try clear hj_6); (try clear hj_11); first | lia | grind [zu_at, zu_atL, zvn]))
      refine zw_zb0 (sf_X12_refuses 1 f20 (by first | with_reducible assumption | exact ⟨by with_reducible assumption, by with_reducible assumption⟩ | ((try clear hback_1); (try clear hj_6); (try clear hj_11); first | lia | grind [zu_at, zu_atL, zvn]))) (fun o_21 ho_21 => ?_)
      obtain ⟨o_21_0, o_21_1⟩ := o_21
      try dsimp only at ho_21
      obtain ⟨ho_21_0, ho_21_1⟩ := ho_21
      refine zw_some ?_
      first | exact True.intro | ((try dsimp only); (repeat' apply And.intro) <;> first | with_reducible assumption | with_reducible exact fun _ => Or.inl rfl | with_reducible exact fun _ _ _ => rfl | with_reducible exact fun _ _ h => Or.inl h | with_reducible rfl | ((with_reducible refine zU1 ?_) <;> grind [z32_in]) | with_reducible exact zU1m | ((with_reducible refine zU4 ?_) <;> ((try clear hback_1); (try clear hj_6); (try clear hj_11); lia)) | ((with_reducible refine zU3 ?_) <;> ((try clear hback_1); (try clear hj_6); (try clear hj_11); lia)) | ((with_reducible refine zU6 ?_) <;> ((try clear hback_1); (try clear hj_6); (try clear hj_11); lia)) | ((with_reducible refine zU8 ⟨?_, ?_⟩) <;> ((try clear hback_1); (try clear hj_6); (try clear hj_11); first | lia | grind)) | ((with_reducible refine zO1 ?_) <;> with_reducible assumption) | ((with_reducible refine zO2 ?_) <;> with_reducible assumption) | ((with_reducible refine zU7 ?_ ⟨?_, ?_⟩) <;> first | with_reducible assumption | lia | grind) | ((with_reducible refine zC1 (d := 4) ⟨by decide, by decide⟩ ?_ ?_ ?_ ?_) <;> first | with_reducible assumption | lia) | ((with_reducible refine zC2 (d := 4) ⟨by decide, by decide⟩ ?_ ?_ ?_) <;> first | with_reducible assumption | lia) | ((with_reducible refine zC1 (d := 14) ⟨by decide, by decide⟩ ?_ ?_ ?_ ?_) <;> first | with_reducible assumption | lia) | ((with_reducible refine zC2 (d := 14) ⟨by decide, by decide⟩ ?_ ?_ ?_) <;> first | with_reducible assumption | lia) | ((with_reducible refine zC3 ?_ ?_ ?_) <;> first | with_reducible assumption | lia) | ((with_reducible refine zC4 ?_ ?_) <;> first | with_reducible assumption | lia) | exact fun _ => zTk3 ho_13_6 Hback_1_7 ho_13_8 Hback_1_1 ho_13_7 Hback_1_8 ho_13_9 Hback_1_2 Hback_1_11 (by with_reducible assumption) (Hj_11_0 c1).1 | ((try clear hback_1); (try clear hj_6); (try clear hj_11); first | lia | grind [zu_at, zu_atL, zvn]))
    refine zw_if (fun c2 => ?_) (fun c2 => ?_)
    · exact hj_11 _ (by first | exact True.intro | ((try dsimp only); (repeat' apply And.intro) <;> first | with_reducible assumption | with_reducible exact fun _ => Or.inl rfl | with_reducible exact fun _ _ _ => rfl | with_reducible exact fun _ _ h => Or.inl h | with_reducible rfl | ((with_reducible refine zU1 ?_) <;> grind [z32_in]) | with_reducible exact zU1m | ((with_reducible refine zU4 ?_) <;> ((try clear hback_1); (try clear hj_6); (try clear hj_11); lia)) | ((with_reducible refine zU3 ?_) <;> ((try clear hback_1); (try clear hj_6); (try clear hj_11); lia)) | ((with_reducible refine zU6 ?_) <;> ((try clear hback_1); (try clear hj_6); (try clear hj_11); lia)) | ((with_reducible refine zU8 ⟨?_, ?_⟩) <;> ((try clear hback_1); (try clear hj_6); (try clear hj_11); first | lia | grind)) | ((with_reducible refine zO1 ?_) <;> with_reducible assumption) | ((with_reducible refine zO2 ?_) <;> with_reducible assumption) | ((with_reducible refine zU7 ?_ ⟨?_, ?_⟩) <;> first | with_reducible assumption | lia | grind) | ((with_reducible refine zC1 (d := 4) ⟨by decide, by decide⟩ ?_ ?_ ?_ ?_) <;> first | with_reducible assumption | lia) | ((with_reducible refine zC2 (d := 4) ⟨by decide, by decide⟩ ?_ ?_ ?_) <;> first | with_reducible assumption | lia) | ((with_reducible refine zC1 (d := 14) ⟨by decide, by decide⟩ ?_ ?_ ?_ ?_) <;> first | with_reducible assumption | lia) | ((with_reducible refine zC2 (d := 14) ⟨by decide, by decide⟩ ?_ ?_ ?_) <;> first | with_reducible assumption | lia) | ((with_reducible refine zC3 ?_ ?_ ?_) <;> first | with_reducible assumption | lia) | ((with_reducible refine zC4 ?_ ?_) <;> first | with_reducible assumption | lia) | exact fun _ => zTk3 ho_13_6 Hback_1_7 ho_13_8 Hback_1_1 ho_13_7 Hback_1_8 ho_13_9 Hback_1_2 Hback_1_11 (by with_reducible assumption) (Hj_11_0 c1).1 | ((try clear hback_1); (try clear hj_6); (try clear hj_11); first | lia | grind [zu_at, zu_atL, zvn])))
    refine zw_zj (fun _ => (s_1_6 (1 : Int32).toNatClampNeg) ≤ 4 ∧ 0 ≤ (s_1_6 (1 : Int32).toNatClampNeg)) (fun s_26 Hj_26 => ?_) (fun j_26 hj_26 => ?_)
    · obtain ⟨Hj_26_0, Hj_26_1⟩ := Hj_26
      refine zw_zb0 (sf_X12_faults 4 v0_1 s_1_4 s_1_5 (by first | with_reducible assumption | exact ⟨by with_reducible assumption, by with_reducible assumption⟩ | ((try clear hback_1); (try clear hj_6); (try clear hj_11); (try clear hj_26); first | lia | grind [zu_at, zu_atL, zvn])) (by first | with_reducible assumption | exact ⟨by with_reducible assumption, by with_reducible assumption⟩ | ((try clear hback_1); (try clear hj_6); (try clear hj_11); (try clear hj_26); first | lia | grind [zu_at, zu_atL, zvn]))) (fun o_27 ho_27 => ?_)
      obtain ⟨o_27_0, o_27_1⟩ := o_27
      try dsimp only at ho_27
      obtain ⟨ho_27_0, ho_27_1, ho_27_2, ho_27_3⟩ := ho_27
      exact hj_11 _ (by first | exact True.intro | ((try dsimp only); (repeat' apply And.intro) <;> first | with_reducible assumption | with_reducible exact fun _ => Or.inl rfl | with_reducible exact fun _ _ _ => rfl | with_reducible exact fun _ _ h => Or.inl h | with_reducible rfl | ((with_reducible refine zU1 ?_) <;> grind [z32_in]) | with_reducible exact zU1m | ((with_reducible refine zU4 ?_) <;> ((try clear hback_1); (try clear hj_6); (try clear hj_11); (try clear hj_26); lia)) | ((with_reducible refine zU3 ?_) <;> ((try clear hback_1); (try clear hj_6); (try clear hj_11); (try clear hj_26); lia)) | ((with_reducible refine zU6 ?_) <;> ((try clear hback_1); (try clear hj_6); (try clear hj_11); (try clear hj_26); lia)) | ((with_reducible refine zU8 ⟨?_, ?_⟩) <;> ((try clear hback_1); (try clear hj_6); (try clear hj_11); (try clear hj_26); first | lia | grind)) | ((with_reducible refine zO1 ?_) <;> with_reducible assumption) | ((with_reducible refine zO2 ?_) <;> with_reducible assumption) | ((with_reducible refine zU7 ?_ ⟨?_, ?_⟩) <;> first | with_reducible assumption | lia | grind) | ((with_reducible refine zC1 (d := 4) ⟨by decide, by decide⟩ ?_ ?_ ?_ ?_) <;> first | with_reducible assumption | lia) | ((with_reducible refine zC2 (d := 4) ⟨by decide, by decide⟩ ?_ ?_ ?_) <;> first | with_reducible assumption | lia) | ((with_reducible refine zC1 (d := 14) ⟨by decide, by decide⟩ ?_ ?_ ?_ ?_) <;> first | with_reducible assumption | lia) | ((with_reducible refine zC2 (d := 14) ⟨by decide, by decide⟩ ?_ ?_ ?_) <;> first | with_reducible assumption | lia) | ((with_reducible refine zC3 ?_ ?_ ?_) <;> first | with_reducible assumption | lia) | ((with_reducible refine zC4 ?_ ?_) <;> first | with_reducible assumption | lia) | exact fun _ => zTk3 ho_13_6 Hback_1_7 ho_13_8 Hback_1_1 ho_13_7 Hback_1_8 ho_13_9 Hback_1_2 Hback_1_11 (by with_reducible assumption) (Hj_11_0 c1).1 | ((try clear hback_1); (try clear hj_6); (try clear hj_11); (try clear hj_26); first | lia | grind [zu_at, zu_atL, zvn])))
    refine zw_if (fun c3 => ?_) (fun c3 => ?_)
    · exact hj_26 _ (by first | exact True.intro | ((try dsimp only); (repeat' apply And.intro) <;> first | with_reducible assumption | with_reducible exact fun _ => Or.inl rfl | with_reducible exact fun _ _ _ => rfl | with_reducible exact fun _ _ h => Or.inl h | with_reducible rfl | ((with_reducible refine zU1 ?_) <;> grind [z32_in]) | with_reducible exact zU1m | ((with_reducible refine zU4 ?_) <;> ((try clear hback_1); (try clear hj_6); (try clear hj_11); (try clear hj_26); lia)) | ((with_reducible refine zU3 ?_) <;> ((try clear hback_1); (try clear hj_6); (try clear hj_11); (try clear hj_26); lia)) | ((with_reducible refine zU6 ?_) <;> ((try clear hback_1); (try clear hj_6); (try clear hj_11); (try clear hj_26); lia)) | ((with_reducible refine zU8 ⟨?_, ?_⟩) <;> ((try clear hback_1); (try clear hj_6); (try clear hj_11); (try clear hj_26); first | lia | grind)) | ((with_reducible refine zO1 ?_) <;> with_reducible assumption) | ((with_reducible refine zO2 ?_) <;> with_reducible assumption) | ((with_reducible refine zU7 ?_ ⟨?_, ?_⟩) <;> first | with_reducible assumption | lia | grind) | ((with_reducible refine zC1 (d := 4) ⟨by decide, by decide⟩ ?_ ?_ ?_ ?_) <;> first | with_reducible assumption | lia) | ((with_reducible refine zC2 (d := 4) ⟨by decide, by decide⟩ ?_ ?_ ?_) <;> first | with_reducible assumption | lia) | ((with_reducible refine zC1 (d := 14) ⟨by decide, by decide⟩ ?_ ?_ ?_ ?_) <;> first | with_reducible assumption | lia) | ((with_reducible refine zC2 (d := 14) ⟨by decide, by decide⟩ ?_ ?_ ?_) <;> first | with_reducible assumption | lia) | ((with_reducible refine zC3 ?_ ?_ ?_) <;> first | with_reducible assumption | lia) | ((with_reducible refine zC4 ?_ ?_) <;> first | with_reducible assumption | lia) | exact fun _ => zTk3 ho_13_6 Hback_1_7 ho_13_8 Hback_1_1 ho_13_7 Hback_1_8 ho_13_9 Hback_1_2 Hback_1_11 (by with_reducible assumption) (Hj_11_0 c1).1 | ((try clear hback_1); (try clear hj_6); (try clear hj_11); (try clear hj_26); first | lia | grind [zu_at, zu_atL, zvn])))
    refine zw_if (fun c4 => ?_) (fun c4 => ?_)
    · exact hj_26 _ (by first | exact True.intro | ((try dsimp only); (repeat' apply And.intro) <;> first | with_reducible assumption | with_reducible exact fun _ => Or.inl rfl | with_reducible exact fun _ _ _ => rfl | with_reducible exact fun _ _ h => Or.inl h | with_reducible rfl | ((with_reducible refine zU1 ?_) <;> grind [z32_in]) | with_reducible exact zU1m | ((with_reducible refine zU4 ?_) <;> ((try clear hback_1); (try clear hj_6); (try clear hj_11); (try clear hj_26); lia)) | ((with_reducible refine zU3 ?_) <;> ((try clear hback_1); (try clear hj_6); (try clear hj_11); (try clear hj_26); lia)) | ((with_reducible refine zU6 ?_) <;> ((try clear hback_1); (try clear hj_6); (try clear hj_11); (try clear hj_26); lia)) | ((with_reducible refine zU8 ⟨?_, ?_⟩) <;> ((try clear hback_1); (try clear hj_6); (try clear hj_11); (try clear hj_26); first | lia | grind)) | ((with_reducible refine zO1 ?_) <;> with_reducible assumption) | ((with_reducible refine zO2 ?_) <;> with_reducible assumption) | ((with_reducible refine zU7 ?_ ⟨?_, ?_⟩) <;> first | with_reducible assumption | lia | grind) | ((with_reducible refine zC1 (d := 4) ⟨by decide, by decide⟩ ?_ ?_ ?_ ?_) <;> first | with_reducible assumption | lia) | ((with_reducible refine zC2 (d := 4) ⟨by decide, by decide⟩ ?_ ?_ ?_) <;> first | with_reducible assumption | lia) | ((with_reducible refine zC1 (d := 14) ⟨by decide, by decide⟩ ?_ ?_ ?_ ?_) <;> first | with_reducible assumption | lia) | ((with_reducible refine zC2 (d := 14) ⟨by decide, by decide⟩ ?_ ?_ ?_) <;> first | with_reducible assumption | lia) | ((with_reducible refine zC3 ?_ ?_ ?_) <;> first | with_reducible assumption | lia) | ((with_reducible refine zC4 ?_ ?_) <;> first | with_reducible assumption | lia) | exact fun _ => zTk3 ho_13_6 Hback_1_7 ho_13_8 Hback_1_1 ho_13_7 Hback_1_8 ho_13_9 Hback_1_2 Hback_1_11 (by with_reducible assumption) (Hj_11_0 c1).1 | ((try clear hback_1); (try clear hj_6); (try clear hj_11); (try clear hj_26); first | lia | grind [zu_at, zu_atL, zvn])))
    exact hj_11 _ (by first | exact True.intro | ((try dsimp only); (repeat' apply And.intro) <;> first | with_reducible assumption | with_reducible exact fun _ => Or.inl rfl | with_reducible exact fun _ _ _ => rfl | with_reducible exact fun _ _ h => Or.inl h | with_reducible rfl | ((with_reducible refine zU1 ?_) <;> grind [z32_in]) | with_reducible exact zU1m | ((with_reducible refine zU4 ?_) <;> ((try clear hback_1); (try clear hj_6); (try clear hj_11); (try clear hj_26); lia)) | ((with_reducible refine zU3 ?_) <;> ((try clear hback_1); (try clear hj_6); (try clear hj_11); (try clear hj_26); lia)) | ((with_reducible refine zU6 ?_) <;> ((try clear hback_1); (try clear hj_6); (try clear hj_11); (try clear hj_26); lia)) | ((with_reducible refine zU8 ⟨?_, ?_⟩) <;> ((try clear hback_1); (try clear hj_6); (try clear hj_11); (try clear hj_26); first | lia | grind)) | ((with_reducible refine zO1 ?_) <;> with_reducible assumption) | ((with_reducible refine zO2 ?_) <;> with_reducible assumption) | ((with_reducible refine zU7 ?_ ⟨?_, ?_⟩) <;> first | with_reducible assumption | lia | grind) | ((with_reducible refine zC1 (d := 4) ⟨by decide, by decide⟩ ?_ ?_ ?_ ?_) <;> first | with_reducible assumption | lia) | ((with_reducible refine zC2 (d := 4) ⟨by decide, by decide⟩ ?_ ?_ ?_) <;> first | with_reducible assumption | lia) | ((with_reducible refine zC1 (d := 14) ⟨by decide, by decide⟩ ?_ ?_ ?_ ?_) <;> first | with_reducible assumption | lia) | ((with_reducible refine zC2 (d := 14) ⟨by decide, by decide⟩ ?_ ?_ ?_) <;> first | with_reducible assumption | lia) | ((with_reducible refine zC3 ?_ ?_ ?_) <;> first | with_reducible assumption | lia) | ((with_reducible refine zC4 ?_ ?_) <;> first | with_reducible assumption | lia) | exact fun _ => zTk3 ho_13_6 Hback_1_7 ho_13_8 Hback_1_1 ho_13_7 Hback_1_8 ho_13_9 Hback_1_2 Hback_1_11 (by with_reducible assumption) (Hj_11_0 c1).1 | ((try clear hback_1); (try clear hj_6); (try clear hj_11); (try clear hj_26); first | lia | grind [zu_at, zu_atL, zvn])))
  refine zw_if (fun c5 => ?_) (fun c5 => ?_)
  · exact hj_6 _ (by first | exact True.intro | ((try dsimp only); (repeat' apply And.intro) <;> first | with_reducible assumption | with_reducible exact fun _ => Or.inl rfl | with_reducible exact fun _ _ _ => rfl | with_reducible exact fun _ _ h => Or.inl h | with_reducible rfl | ((with_reducible refine zU1 ?_) <;> grind [z32_in]) | with_reducible exact zU1m | ((with_reducible refine zU4 ?_) <;> ((try clear hback_1); (try clear hj_6); (try clear hj_11); (try clear hj_26); lia)) | ((with_reducible refine zU3 ?_) <;> ((try clear hback_1); (try clear hj_6); (try clear hj_11); (try clear hj_26); lia)) | ((with_reducible refine zU6 ?_) <;> ((try clear hback_1); (try clear hj_6); (try clear hj_11); (try clear hj_26); lia)) | ((with_reducible refine zU8 ⟨?_, ?_⟩) <;> ((try clear hback_1); (try clear hj_6); (try clear hj_11); (try clear hj_26); first | lia | grind)) | ((with_reducible refine zO1 ?_) <;> with_reducible assumption) | ((with_reducible refine zO2 ?_) <;> with_reducible assumption) | ((with_reducible refine zU7 ?_ ⟨?_, ?_⟩) <;> first | with_reducible assumption | lia | grind) | ((with_reducible refine zC1 (d := 4) ⟨by decide, by decide⟩ ?_ ?_ ?_ ?_) <;> first | with_reducible assumption | lia) | ((with_reducible refine zC2 (d := 4) ⟨by decide, by decide⟩ ?_ ?_ ?_) <;> first | with_reducible assumption | lia) | ((with_reducible refine zC1 (d := 14) ⟨by decide, by decide⟩ ?_ ?_ ?_ ?_) <;> first | with_reducible assumption | lia) | ((with_reducible refine zC2 (d := 14) ⟨by decide, by decide⟩ ?_ ?_ ?_) <;> first | with_reducible assumption | lia) | ((with_reducible refine zC3 ?_ ?_ ?_) <;> first | with_reducible assumption | lia) | ((with_reducible refine zC4 ?_ ?_) <;> first | with_reducible assumption | lia) | exact fun _ => zTk3 ho_13_6 Hback_1_7 ho_13_8 Hback_1_1 ho_13_7 Hback_1_8 ho_13_9 Hback_1_2 Hback_1_11 (by with_reducible assumption) (Hj_11_0 c1).1 | ((try clear hback_1); (try clear hj_6); (try clear hj_11); (try clear hj_26); first | lia | grind [zu_at, zu_atL, zvn])))
  refine zw_zb0 (sf_X12_here v0_1 s_1_2 f4 (by first | with_reducible assumption | exact ⟨by with_reducible assumption, by with_reducible assumption⟩ | ((try clear hback_1); (try clear hj_6); (try clear hj_11); (try clear hj_26); first | lia | grind [zu_at, zu_atL, zvn])) (by first | with_reducible assumption | exact ⟨by with_reducible assumption, by with_reducible assumption⟩ | ((try clear hback_1); (try clear hj_6); (try clear hj_11); (try clear hj_26); first | lia | grind [zu_at, zu_atL, zvn])) (by first | with_reducible assumption | exact ⟨by with_reducible assumption, by with_reducible assumption⟩ | ((try clear hback_1); (try clear hj_6); (try clear hj_11); (try clear hj_26); first | lia | grind [zu_at, zu_atL, zvn]))) (fun o_34 ho_34 => ?_)
  obtain ⟨o_34_0, o_34_1⟩ := o_34
  try dsimp only at ho_34
  obtain ⟨ho_34_0, ho_34_1, ho_34_2, ho_34_3, ho_34_4, ho_34_5, ho_34_6⟩ := ho_34
  refine zw_if (fun c6 => ?_) (fun c6 => ?_)
  · exact hj_6 _ (by first | exact True.intro | ((try dsimp only); (repeat' apply And.intro) <;> first | with_reducible assumption | with_reducible exact fun _ => Or.inl rfl | with_reducible exact fun _ _ _ => rfl | with_reducible exact fun _ _ h => Or.inl h | with_reducible rfl | ((with_reducible refine zU1 ?_) <;> grind [z32_in]) | with_reducible exact zU1m | ((with_reducible refine zU4 ?_) <;> ((try clear hback_1); (try clear hj_6); (try clear hj_11); (try clear hj_26); lia)) | ((with_reducible refine zU3 ?_) <;> ((try clear hback_1); (try clear hj_6); (try clear hj_11); (try clear hj_26); lia)) | ((with_reducible refine zU6 ?_) <;> ((try clear hback_1); (try clear hj_6); (try clear hj_11); (try clear hj_26); lia)) | ((with_reducible refine zU8 ⟨?_, ?_⟩) <;> ((try clear hback_1); (try clear hj_6); (try clear hj_11); (try clear hj_26); first | lia | grind)) | ((with_reducible refine zO1 ?_) <;> with_reducible assumption) | ((with_reducible refine zO2 ?_) <;> with_reducible assumption) | ((with_reducible refine zU7 ?_ ⟨?_, ?_⟩) <;> first | with_reducible assumption | lia | grind) | ((with_reducible refine zC1 (d := 4) ⟨by decide, by decide⟩ ?_ ?_ ?_ ?_) <;> first | with_reducible assumption | lia) | ((with_reducible refine zC2 (d := 4) ⟨by decide, by decide⟩ ?_ ?_ ?_) <;> first | with_reducible assumption | lia) | ((with_reducible refine zC1 (d := 14) ⟨by decide, by decide⟩ ?_ ?_ ?_ ?_) <;> first | with_reducible assumption | lia) | ((with_reducible refine zC2 (d := 14) ⟨by decide, by decide⟩ ?_ ?_ ?_) <;> first | with_reducible assumption | lia) | ((with_reducible refine zC3 ?_ ?_ ?_) <;> first | with_reducible assumption | lia) | ((with_reducible refine zC4 ?_ ?_) <;> first | with_reducible assumption | lia) | exact fun _ => zTk3 ho_13_6 Hback_1_7 ho_13_8 Hback_1_1 ho_13_7 Hback_1_8 ho_13_9 Hback_1_2 Hback_1_11 (by with_reducible assumption) (Hj_11_0 c1).1 | ((try clear hback_1); (try clear hj_6); (try clear hj_11); (try clear hj_26); first | lia | grind [zu_at, zu_atL, zvn])))
  refine zw_zb0 (sf_X12_readsStatement s_1_0 v0_1 o_34_1 s_1_3 s_1_4 s_1_5 1 s_1_1 f4 f5 s_1_6 s_1_11 s_1_7 s_1_12 s_1_8 s_1_9 s_1_10 s_1_20 s_1_18 s_1_13 s_1_14 s_1_15 s_1_19 s_1_21 s_1_16 s_1_17 (by first | with_reducible assumption | exact ⟨by with_reducible assumption, by with_reducible assumption⟩ | ((try clear hback_1); (try clear hj_6); (try clear hj_11); (try clear hj_26); first | lia | grind [zu_at, zu_atL, zvn])) (by first | with_reducible assumption | exact ⟨by with_reducible assumption, by with_reducible assumption⟩ | ((try clear hback_1); (try clear hj_6); (try clear hj_11); (try clear hj_26); first | lia | grind [zu_at, zu_atL, zvn])) (by first | with_reducible assumption | exact ⟨by with_reducible assumption, by with_reducible assumption⟩ | ((try clear hback_1); (try clear hj_6); (try clear hj_11); (try clear hj_26); first | lia | grind [zu_at, zu_atL, zvn])) (by first | with_reducible assumption | exact ⟨by with_reducible assumption, by with_reducible assumption⟩ | ((try clear hback_1); (try clear hj_6); (try clear hj_11); (try clear hj_26); first | lia | grind [zu_at, zu_atL, zvn])) (by first | with_reducible assumption | exact ⟨by with_reducible assumption, by with_reducible assumption⟩ | ((try clear hback_1); (try clear hj_6); (try clear hj_11); (try clear hj_26); first | lia | grind [zu_at, zu_atL, zvn])) (by first | with_reducible assumption | exact ⟨by with_reducible assumption, by with_reducible assumption⟩ | ((try clear hback_1); (try clear hj_6); (try clear hj_11); (try clear hj_26); first | lia | grind [zu_at, zu_atL, zvn])) (by first | with_reducible assumption | exact ⟨by with_reducible assumption, by with_reducible assumption⟩ | ((try clear hback_1); (try clear hj_6); (try clear hj_11); (try clear hj_26); first | lia | grind [zu_at, zu_atL, zvn])) (by first | with_reducible assumption | exact ⟨by with_reducible assumption, by with_reducible assumption⟩ | ((try clear hback_1); (try clear hj_6); (try clear hj_11); (try clear hj_26); first | lia | grind [zu_at, zu_atL, zvn])) (by first | with_reducible assumption | exact ⟨by with_reducible assumption, by with_reducible assumption⟩ | ((try clear hback_1); (try clear hj_6); (try clear hj_11); (try clear hj_26); first | lia | grind [zu_at, zu_atL, zvn])) (by first | with_reducible assumption | exact ⟨by with_reducible assumption, by with_reducible assumption⟩ | ((try clear hback_1); (try clear hj_6); (try clear hj_11); (try clear hj_26); first | lia | grind [zu_at, zu_atL, zvn])) (by first | with_reducible assumption | exact ⟨by with_reducible assumption, by with_reducible assumption⟩ | ((try clear hback_1); (try clear hj_6); (try clear hj_11); (try clear hj_26); first | lia | grind [zu_at, zu_atL, zvn])) (by first | with_reducible assumption | exact ⟨by with_reducible assumption, by with_reducible assumption⟩ | ((try clear hback_1); (try clear hj_6); (try clear hj_11); (try clear hj_26); first | lia | grind [zu_at, zu_atL, zvn])) (by first | with_reducible assumption | exact ⟨by with_reducible assumption, by with_reducible assumption⟩ | ((try clear hback_1); (try clear hj_6); (try clear hj_11); (try clear hj_26); first | lia | grind [zu_at, zu_atL, zvn])) (by first | with_reducible assumption | exact ⟨by with_reducible assumption, by with_reducible assumption⟩ | ((try clear hback_1); (try clear hj_6); (try clear hj_11); (try clear hj_26); first | lia | grind [zu_at, zu_atL, zvn]))) (fun o_39 ho_39 => ?_)
  obtain ⟨o_39_0, o_39_1, o_39_2, o_39_3, o_39_4, o_39_5, o_39_6, o_39_7, o_39_8, o_39_9, o_39_10, o_39_11, o_39_12, o_39_13, o_39_14, o_39_15, o_39_16, o_39_17, o_39_18, o_39_19, o_39_20⟩ := o_39
  try dsimp only at ho_39
  obtain ⟨ho_39_0, ho_39_1, ho_39_2, ho_39_3, ho_39_4, ho_39_5, ho_39_6, ho_39_7, ho_39_8, ho_39_9, ho_39_10, ho_39_11, ho_39_12, ho_39_13, ho_39_14, ho_39_15, ho_39_16, ho_39_17, ho_39_18, ho_39_19, ho_39_20, ho_39_21⟩ := ho_39
  exact hback_1 _ (by (try dsimp only); (repeat' apply And.intro) <;> first | with_reducible assumption | with_reducible exact fun _ => Or.inl rfl | with_reducible exact fun _ _ _ => rfl | with_reducible exact fun _ _ h => Or.inl h | with_reducible rfl | ((with_reducible refine zU1 ?_) <;> grind [z32_in]) | with_reducible exact zU1m | ((with_reducible refine zU4 ?_) <;> ((try clear hback_1); (try clear hj_6); (try clear hj_11); (try clear hj_26); lia)) | ((with_reducible refine zU3 ?_) <;> ((try clear hback_1); (try clear hj_6); (try clear hj_11); (try clear hj_26); lia)) | ((with_reducible refine zU6 ?_) <;> ((try clear hback_1); (try clear hj_6); (try clear hj_11); (try clear hj_26); lia)) | ((with_reducible refine zU8 ⟨?_, ?_⟩) <;> ((try clear hback_1); (try clear hj_6); (try clear hj_11); (try clear hj_26); first | lia | grind)) | ((with_reducible refine zO1 ?_) <;> with_reducible assumption) | ((with_reducible refine zO2 ?_) <;> with_reducible assumption) | ((with_reducible refine zU7 ?_ ⟨?_, ?_⟩) <;> first | with_reducible assumption | lia | grind) | ((with_reducible refine zC1 (d := 4) ⟨by decide, by decide⟩ ?_ ?_ ?_ ?_) <;> first | with_reducible assumption | lia) | ((with_reducible refine zC2 (d := 4) ⟨by decide, by decide⟩ ?_ ?_ ?_) <;> first | with_reducible assumption | lia) | ((with_reducible refine zC1 (d := 14) ⟨by decide, by decide⟩ ?_ ?_ ?_ ?_) <;> first | with_reducible assumption | lia) | ((with_reducible refine zC2 (d := 14) ⟨by decide, by decide⟩ ?_ ?_ ?_) <;> first | with_reducible assumption | lia) | ((with_reducible refine zC3 ?_ ?_ ?_) <;> first | with_reducible assumption | lia) | ((with_reducible refine zC4 ?_ ?_) <;> first | with_reducible assumption | lia) | exact fun _ => zTk3 ho_13_6 Hback_1_7 ho_13_8 Hback_1_1 ho_13_7 Hback_1_8 ho_13_9 Hback_1_2 Hback_1_11 (by with_reducible assumption) (Hj_11_0 c1).1 | ((try clear hback_1); (try clear hj_6); (try clear hj_11); (try clear hj_26); first | lia | grind [zu_at, zu_atL, zvn])) (by (try dsimp only); ((try clear hback_1); (try clear hj_6); (try clear hj_11); (try clear hj_26); first | lia | grind [zu_at, zu_atL, zvn])) (by (try dsimp only); ((try clear hback_1); (try clear hj_6); (try clear hj_11); (try clear hj_26); first | lia | grind [zu_at, zu_atL, zvn]))
set_option maxHeartbeats 4000000 in
set_option maxRecDepth 100000 in
theorem sf_X12_fault (p1 : Int32) (v0_3 : Int32) (v0_4 : Int32) : zw (fn_X12_fault p1 v0_3 v0_4) (fun r => True) := by
  unfold fn_X12_fault
  refine zw_if (fun c1 => ?_) (fun c1 => ?_)
  · refine zw_some ?_
    first | exact True.intro | ((try dsimp only); (repeat' apply And.intro) <;> first | with_reducible assumption | first | lia | grind [zu_at, zu_atL, zvn])
  refine zw_if (fun c2 => ?_) (fun c2 => ?_)
  · refine zw_some ?_
    first | exact True.intro | ((try dsimp only); (repeat' apply And.intro) <;> first | with_reducible assumption | first | lia | grind [zu_at, zu_atL, zvn])
  refine zw_some ?_
  first | exact True.intro | ((try dsimp only); (repeat' apply And.intro) <;> first | with_reducible assumption | first | lia | grind [zu_at, zu_atL, zvn])
set_option maxHeartbeats 4000000 in
set_option maxRecDepth 100000 in
theorem sf_X12_isNumber (p1 : Int32) (f1 : Nat → Int32) (h_f1 : (∀ i : Nat, 0 ≤ f1 i ∧ f1 i ≤ 14)) : zw (fn_X12_isNumber p1 f1) (fun r => 0 ≤ r ∧ r ≤ 1 ∧ r ≤ (f1 (0 : Int32).toNatClampNeg) ∧ (¬ r = 0 → 0 ≤ p1 ∧ 1 ≤ r ∧ p1 ≤ 13 ∧ p1 < (f1 (0 : Int32).toNatClampNeg)) ∧ (r = 1 → 0 ≤ p1 ∧ p1 ≤ 13 ∧ 1 ≤ (f1 (0 : Int32).toNatClampNeg) ∧ p1 < (f1 (0 : Int32).toNatClampNeg)) ∧ (¬ r = 1 → r ≤ 0)) := by
  unfold fn_X12_isNumber
  refine zw_zb0 (sf_X12_isIn p1.toInt64 (0 : Int64) ((f1 (0 : Int32).toNatClampNeg).toInt64 - (1 : Int64))) (fun o_1 ho_1 => ?_)
  obtain ⟨ho_1_0, ho_1_1, ho_1_2, ho_1_3, ho_1_4⟩ := ho_1
  have hz1 := z64_ge0 p1
  have hz2 := z64_ltm p1 (f1 (0 : Int32).toNatClampNeg) (h_f1 _).1
  refine zw_some ?_
  first | exact True.intro | ((try dsimp only); (repeat' apply And.intro) <;> first | with_reducible assumption | first | lia | grind [zu_at, zu_atL, zvn])
set_option maxHeartbeats 4000000 in
set_option maxRecDepth 100000 in
theorem sf_X12_isFormat (p1 : Int32) (f1 : Nat → Int32) (h_f1 : (∀ i : Nat, 0 ≤ f1 i ∧ f1 i ≤ 4)) : zw (fn_X12_isFormat p1 f1) (fun r => 0 ≤ r ∧ r ≤ 1 ∧ r ≤ (f1 (0 : Int32).toNatClampNeg) ∧ (f1 (0 : Int32).toNatClampNeg) ≤ r + 4 ∧ (¬ r = 0 → 0 ≤ p1 ∧ 1 ≤ r ∧ p1 ≤ 3 ∧ p1 < (f1 (0 : Int32).toNatClampNeg)) ∧ (r = 1 → 0 ≤ p1 ∧ p1 ≤ 3 ∧ p1 ≤ r + 2 ∧ 1 ≤ (f1 (0 : Int32).toNatClampNeg) ∧ p1 < (f1 (0 : Int32).toNatClampNeg) ∧ (f1 (0 : Int32).toNatClampNeg) ≤ r + 3) ∧ (¬ r = 1 → r ≤ 0)) := by
  unfold fn_X12_isFormat
  refine zw_zb0 (sf_X12_isIn p1.toInt64 (0 : Int64) ((f1 (0 : Int32).toNatClampNeg).toInt64 - (1 : Int64))) (fun o_1 ho_1 => ?_)
  obtain ⟨ho_1_0, ho_1_1, ho_1_2, ho_1_3, ho_1_4⟩ := ho_1
  have hz1 := z64_ge0 p1
  have hz2 := z64_ltm p1 (f1 (0 : Int32).toNatClampNeg) (h_f1 _).1
  refine zw_some ?_
  first | exact True.intro | ((try dsimp only); (repeat' apply And.intro) <;> first | with_reducible assumption | first | lia | grind [zu_at, zu_atL, zvn])
set_option maxHeartbeats 4000000 in
set_option maxRecDepth 100000 in
theorem sf_X12_inputs (f1 : Nat → Int32) (f2 : Nat → Int32) (h_f1 : (∀ i : Nat, 0 ≤ f1 i ∧ f1 i ≤ 14)) : zw (fn_X12_inputs f1 f2) (fun r => 0 ≤ r ∧ r ≤ 14) := by
  unfold fn_X12_inputs
  refine zw_zl32 (fun s_1 => 0 ≤ s_1.1 ∧ 0 ≤ s_1.2 ∧ s_1.1 ≤ 14 ∧ s_1.2 ≤ 14 ∧ s_1.1 ≤ s_1.2) (fun s_1 => 14 - s_1.2) (by (try dsimp only); (repeat' apply And.intro) <;> first | with_reducible assumption | first | lia | grind [zu_at, zu_atL, zvn]) (by (try dsimp only); first | lia | grind [zu_at, zu_atL, zvn]) (fun s_1 back_1 Hback_1 hback_1 => ?_)
  obtain ⟨s_1_0, s_1_1⟩ := s_1
  try dsimp only at Hback_1 hback_1
  obtain ⟨Hback_1_0, Hback_1_1, Hback_1_2, Hback_1_3, Hback_1_4⟩ := Hback_1
  refine zw_if (fun c1 => ?_) (fun c1 => ?_)
  · refine zw_some ?_
    first | exact True.intro | ((try dsimp only); (repeat' apply And.intro) <;> first | with_reducible assumption | ((try clear hback_1); first | lia | grind [zu_at, zu_atL, zvn]))
  refine zw_zg32 28 (by decide) (by (try dsimp only); ((try clear hback_1); first | lia | grind [zu_at, zu_atL, zvn])) ?_
  refine zw_if (fun c2 => ?_) (fun c2 => ?_)
  · exact hback_1 _ (by (try dsimp only); (repeat' apply And.intro) <;> first | with_reducible assumption | ((try clear hback_1); first | lia | grind [zu_at, zu_atL, zvn])) (by (try dsimp only); ((try clear hback_1); first | lia | grind [zu_at, zu_atL, zvn])) (by (try dsimp only); ((try clear hback_1); first | lia | grind [zu_at, zu_atL, zvn]))
  exact hback_1 _ (by (try dsimp only); (repeat' apply And.intro) <;> first | with_reducible assumption | ((try clear hback_1); first | lia | grind [zu_at, zu_atL, zvn])) (by (try dsimp only); ((try clear hback_1); first | lia | grind [zu_at, zu_atL, zvn])) (by (try dsimp only); ((try clear hback_1); first | lia | grind [zu_at, zu_atL, zvn]))
set_option maxHeartbeats 4000000 in
set_option maxRecDepth 100000 in
theorem sf_X12_answers (f1 : Nat → Int32) (f2 : Nat → Int32) (h_f1 : (∀ i : Nat, 0 ≤ f1 i ∧ f1 i ≤ 14)) : zw (fn_X12_answers f1 f2) (fun r => 0 ≤ r ∧ r ≤ 14) := by
  unfold fn_X12_answers
  refine zw_zl32 (fun s_1 => 0 ≤ s_1.1 ∧ 0 ≤ s_1.2 ∧ s_1.1 ≤ 14 ∧ s_1.2 ≤ 14 ∧ s_1.1 ≤ s_1.2) (fun s_1 => 14 - s_1.2) (by (try dsimp only); (repeat' apply And.intro) <;> first | with_reducible assumption | first | lia | grind [zu_at, zu_atL, zvn]) (by (try dsimp only); first | lia | grind [zu_at, zu_atL, zvn]) (fun s_1 back_1 Hback_1 hback_1 => ?_)
  obtain ⟨s_1_0, s_1_1⟩ := s_1
  try dsimp only at Hback_1 hback_1
  obtain ⟨Hback_1_0, Hback_1_1, Hback_1_2, Hback_1_3, Hback_1_4⟩ := Hback_1
  refine zw_if (fun c1 => ?_) (fun c1 => ?_)
  · refine zw_some ?_
    first | exact True.intro | ((try dsimp only); (repeat' apply And.intro) <;> first | with_reducible assumption | ((try clear hback_1); first | lia | grind [zu_at, zu_atL, zvn]))
  refine zw_zg32 28 (by decide) (by (try dsimp only); ((try clear hback_1); first | lia | grind [zu_at, zu_atL, zvn])) ?_
  refine zw_if (fun c2 => ?_) (fun c2 => ?_)
  · exact hback_1 _ (by (try dsimp only); (repeat' apply And.intro) <;> first | with_reducible assumption | ((try clear hback_1); first | lia | grind [zu_at, zu_atL, zvn])) (by (try dsimp only); ((try clear hback_1); first | lia | grind [zu_at, zu_atL, zvn])) (by (try dsimp only); ((try clear hback_1); first | lia | grind [zu_at, zu_atL, zvn]))
  exact hback_1 _ (by (try dsimp only); (repeat' apply And.intro) <;> first | with_reducible assumption | ((try clear hback_1); first | lia | grind [zu_at, zu_atL, zvn])) (by (try dsimp only); ((try clear hback_1); first | lia | grind [zu_at, zu_atL, zvn])) (by (try dsimp only); ((try clear hback_1); first | lia | grind [zu_at, zu_atL, zvn]))
set_option maxHeartbeats 4000000 in
set_option maxRecDepth 100000 in
theorem sf_X12_groups (f1 : Nat → Int32) (f2 : Nat → Int32) (h_f1 : (∀ i : Nat, 0 ≤ f1 i ∧ f1 i ≤ 14)) (h_f2 : (∀ i : Nat, 0 ≤ f2 i ∧ f2 i ≤ 13)) : zw (fn_X12_groups f1 f2) (fun r => 0 ≤ r ∧ r ≤ 14) := by
  unfold fn_X12_groups
  refine zw_zl32 (fun s_1 => 0 ≤ s_1.1 ∧ 0 ≤ s_1.2 ∧ s_1.1 ≤ 14 ∧ s_1.2 ≤ 14 ∧ s_1.1 ≤ s_1.2) (fun s_1 => 14 - s_1.2) (by (try dsimp only); (repeat' apply And.intro) <;> first | with_reducible assumption | first | lia | grind [zu_at, zu_atL, zvn]) (by (try dsimp only); first | lia | grind [zu_at, zu_atL, zvn]) (fun s_1 back_1 Hback_1 hback_1 => ?_)
  obtain ⟨s_1_0, s_1_1⟩ := s_1
  try dsimp only at Hback_1 hback_1
  obtain ⟨Hback_1_0, Hback_1_1, Hback_1_2, Hback_1_3, Hback_1_4⟩ := Hback_1
  refine zw_if (fun c1 => ?_) (fun c1 => ?_)
  · refine zw_some ?_
    first | exact True.intro | ((try dsimp only); (repeat' apply And.intro) <;> first | with_reducible assumption | ((try clear hback_1); first | lia | grind [zu_at, zu_atL, zvn]))
  refine zw_zg32 28 (by decide) (by (try dsimp only); ((try clear hback_1); first | lia | grind [zu_at, zu_atL, zvn])) ?_
  refine zw_if (fun c2 => ?_) (fun c2 => ?_)
  · exact hback_1 _ (by (try dsimp only); (repeat' apply And.intro) <;> first | with_reducible assumption | ((try clear hback_1); first | lia | grind [zu_at, zu_atL, zvn])) (by (try dsimp only); ((try clear hback_1); first | lia | grind [zu_at, zu_atL, zvn])) (by (try dsimp only); ((try clear hback_1); first | lia | grind [zu_at, zu_atL, zvn]))
  exact hback_1 _ (by (try dsimp only); (repeat' apply And.intro) <;> first | with_reducible assumption | ((try clear hback_1); first | lia | grind [zu_at, zu_atL, zvn])) (by (try dsimp only); ((try clear hback_1); first | lia | grind [zu_at, zu_atL, zvn])) (by (try dsimp only); ((try clear hback_1); first | lia | grind [zu_at, zu_atL, zvn]))
set_option maxHeartbeats 4000000 in
set_option maxRecDepth 100000 in
theorem sf_X12_isFree (p1 : Int32) (f1 : Nat → Int32) (f2 : Nat → Int32) (f3 : Nat → Int32) (h_f1 : (∀ i : Nat, 0 ≤ f1 i ∧ f1 i ≤ 14)) (h_f2 : (∀ i : Nat, 0 ≤ f2 i ∧ f2 i ≤ 13)) (h_f3 : (∀ i : Nat, (-1) ≤ f3 i ∧ f3 i ≤ 3)) : zw (fn_X12_isFree p1 f1 f2 f3) (fun r => 0 ≤ r ∧ r ≤ 1 ∧ r ≤ (f1 (0 : Int32).toNatClampNeg) + 1 ∧ (¬ r = 1 → 0 ≤ p1 ∧ p1 ≤ 13 ∧ r ≤ 0 ∧ 1 ≤ (f1 (0 : Int32).toNatClampNeg)) ∧ (r = 0 → 0 ≤ p1 ∧ p1 ≤ 13 ∧ r ≤ p1 ∧ 1 ≤ (f1 (0 : Int32).toNatClampNeg) ∧ r < (f1 (0 : Int32).toNatClampNeg)) ∧ (¬ r = 0 → 1 ≤ r)) := by
  unfold fn_X12_isFree
  refine zw_zl32 (fun s_1 => 0 ≤ s_1 ∧ s_1 ≤ 14) (fun s_1 => 14 - s_1) (by (try dsimp only); (repeat' apply And.intro) <;> first | with_reducible assumption | first | lia | grind [zu_at, zu_atL, zvn]) (by (try dsimp only); first | lia | grind [zu_at, zu_atL, zvn]) (fun s_1 back_1 Hback_1 hback_1 => ?_)
  obtain ⟨Hback_1_0, Hback_1_1⟩ := Hback_1
  refine zw_if (fun c1 => ?_) (fun c1 => ?_)
  · refine zw_some ?_
    first | exact True.intro | ((try dsimp only); (repeat' apply And.intro) <;> first | with_reducible assumption | ((try clear hback_1); first | lia | grind [zu_at, zu_atL, zvn]))
  refine zw_zg32 28 (by decide) (by (try dsimp only); ((try clear hback_1); first | lia | grind [zu_at, zu_atL, zvn])) ?_
  refine zw_if (fun c2 => ?_) (fun c2 => ?_)
  · refine zw_if (fun c3 => ?_) (fun c3 => ?_)
    · exact hback_1 _ (by (try dsimp only); (repeat' apply And.intro) <;> first | with_reducible assumption | ((try clear hback_1); first | lia | grind [zu_at, zu_atL, zvn])) (by (try dsimp only); ((try clear hback_1); first | lia | grind [zu_at, zu_atL, zvn])) (by (try dsimp only); ((try clear hback_1); first | lia | grind [zu_at, zu_atL, zvn]))
    refine zw_some ?_
    first | exact True.intro | ((try dsimp only); (repeat' apply And.intro) <;> first | with_reducible assumption | ((try clear hback_1); first | lia | grind [zu_at, zu_atL, zvn]))
  exact hback_1 _ (by (try dsimp only); (repeat' apply And.intro) <;> first | with_reducible assumption | ((try clear hback_1); first | lia | grind [zu_at, zu_atL, zvn])) (by (try dsimp only); ((try clear hback_1); first | lia | grind [zu_at, zu_atL, zvn])) (by (try dsimp only); ((try clear hback_1); first | lia | grind [zu_at, zu_atL, zvn]))
set_option maxHeartbeats 4000000 in
set_option maxRecDepth 100000 in
theorem sf_X12_laysFree (f1 : Nat → Int32) (f2 : Nat → Int32) (f3 : Nat → Int32) (f4 : Nat → Int32) (h_f1 : (∀ i : Nat, 0 ≤ f1 i ∧ f1 i ≤ 14)) (h_f2 : (∀ i : Nat, 0 ≤ f2 i ∧ f2 i ≤ 13)) (h_f3 : (∀ i : Nat, (-1) ≤ f3 i ∧ f3 i ≤ 3)) (h_f4 : (∀ i : Nat, 0 ≤ f4 i ∧ f4 i ≤ 13)) : zw (fn_X12_laysFree f1 f2 f3 f4) (fun r => 0 ≤ r.1 ∧ r.1 ≤ 14 ∧ (∀ i : Nat, 0 ≤ r.2 i ∧ r.2 i ≤ 13)) := by
  unfold fn_X12_laysFree
  refine zw_zl32 (fun s_1 => (∀ i : Nat, 0 ≤ s_1.2.2 i ∧ s_1.2.2 i ≤ 13) ∧ 0 ≤ s_1.1 ∧ s_1.1 ≤ 14 ∧ 0 ≤ s_1.2.1 ∧ s_1.2.1 ≤ 14 ∧ s_1.2.1 ≤ s_1.1) (fun s_1 => 14 - s_1.1) (by (try dsimp only); (repeat' apply And.intro) <;> first | with_reducible assumption | first | lia | grind [zu_at, zu_atL, zvn]) (by (try dsimp only); first | lia | grind [zu_at, zu_atL, zvn]) (fun s_1 back_1 Hback_1 hback_1 => ?_)
  obtain ⟨s_1_0, s_1_1, s_1_2⟩ := s_1
  try dsimp only at Hback_1 hback_1
  obtain ⟨Hback_1_0, Hback_1_1, Hback_1_2, Hback_1_3, Hback_1_4, Hback_1_5⟩ := Hback_1
  refine zw_if (fun c1 => ?_) (fun c1 => ?_)
  · refine zw_some ?_
    first | exact True.intro | ((try dsimp only); (repeat' apply And.intro) <;> first | with_reducible assumption | ((try clear hback_1); first | lia | grind [zu_at, zu_atL, zvn]))
  refine zw_zg32 28 (by decide) (by (try dsimp only); ((try clear hback_1); first | lia | grind [zu_at, zu_atL, zvn])) ?_
  refine zw_if (fun c2 => ?_) (fun c2 => ?_)
  · refine zw_zb0 (sf_X12_isFree s_1_0 f1 f2 f3 (by first | with_reducible assumption | exact ⟨by with_reducible assumption, by with_reducible assumption⟩ | ((try clear hback_1); first | lia | grind [zu_at, zu_atL, zvn])) (by first | with_reducible assumption | exact ⟨by with_reducible assumption, by with_reducible assumption⟩ | ((try clear hback_1); first | lia | grind [zu_at, zu_atL, zvn])) (by first | with_reducible assumption | exact ⟨by with_reducible assumption, by with_reducible assumption⟩ | ((try clear hback_1); first | lia | grind [zu_at, zu_atL, zvn]))) (fun o_5 ho_5 => ?_)
    obtain ⟨ho_5_0, ho_5_1, ho_5_2, ho_5_3, ho_5_4, ho_5_5⟩ := ho_5
    refine zw_if (fun c3 => ?_) (fun c3 => ?_)
    · exact hback_1 _ (by (try dsimp only); (repeat' apply And.intro) <;> first | with_reducible assumption | ((try clear hback_1); first | lia | grind [zu_at, zu_atL, zvn])) (by (try dsimp only); ((try clear hback_1); first | lia | grind [zu_at, zu_atL, zvn])) (by (try dsimp only); ((try clear hback_1); first | lia | grind [zu_at, zu_atL, zvn]))
    refine zw_zg32 14 (by decide) (by (try dsimp only); ((try clear hback_1); first | lia | grind [zu_at, zu_atL, zvn])) ?_
    exact hback_1 _ (by (try dsimp only); (repeat' apply And.intro) <;> first | with_reducible assumption | ((try clear hback_1); first | lia | grind [zu_at, zu_atL, zvn])) (by (try dsimp only); ((try clear hback_1); first | lia | grind [zu_at, zu_atL, zvn])) (by (try dsimp only); ((try clear hback_1); first | lia | grind [zu_at, zu_atL, zvn]))
  exact hback_1 _ (by (try dsimp only); (repeat' apply And.intro) <;> first | with_reducible assumption | ((try clear hback_1); first | lia | grind [zu_at, zu_atL, zvn])) (by (try dsimp only); ((try clear hback_1); first | lia | grind [zu_at, zu_atL, zvn])) (by (try dsimp only); ((try clear hback_1); first | lia | grind [zu_at, zu_atL, zvn]))
set_option maxHeartbeats 4000000 in
set_option maxRecDepth 100000 in
theorem sf_X12_has (p1 : Int32) (v0_64 : Int32) (f1 : Nat → Int32) (f2 : Nat → Int32) (f3 : Nat → Int32) (f4 : Nat → Int32) (f5 : Nat → Int32) (f6 : Nat → Int32) (f7 : Nat → Int32) (f8 : Nat → Int32) (h_f1 : (∀ i : Nat, 0 ≤ f1 i ∧ f1 i ≤ 14)) (h_f2 : (∀ i : Nat, 0 ≤ f2 i ∧ f2 i ≤ 13)) (h_f3 : (∀ i : Nat, (-1) ≤ f3 i ∧ f3 i ≤ 3)) (h_f4 : (∀ i : Nat, 0 ≤ f4 i ∧ f4 i ≤ 13)) (h_f5 : (∀ i : Nat, 0 ≤ f5 i ∧ f5 i ≤ 4)) : zw (fn_X12_has p1 v0_64 f1 f2 f3 f4 f5 f6 f7 f8) (fun r => 0 ≤ r.2.1 ∧ r.2.1 ≤ 14 ∧ (∀ i : Nat, 0 ≤ r.2.2 i ∧ r.2.2 i ≤ 13)) := by
  unfold fn_X12_has
  refine zw_zb0 (sf_X12_laysFree f1 f2 f3 f4 (by first | with_reducible assumption | exact ⟨by with_reducible assumption, by with_reducible assumption⟩ | first | lia | grind [zu_at, zu_atL, zvn]) (by first | with_reducible assumption | exact ⟨by with_reducible assumption, by with_reducible assumption⟩ | first | lia | grind [zu_at, zu_atL, zvn]) (by first | with_reducible assumption | exact ⟨by with_reducible assumption, by with_reducible assumption⟩ | first | lia | grind [zu_at, zu_atL, zvn]) (by first | with_reducible assumption | exact ⟨by with_reducible assumption, by with_reducible assumption⟩ | first | lia | grind [zu_at, zu_atL, zvn])) (fun o_1 ho_1 => ?_)
  obtain ⟨o_1_0, o_1_1⟩ := o_1
  try dsimp only at ho_1
  obtain ⟨ho_1_0, ho_1_1, ho_1_2⟩ := ho_1
  refine zw_if (fun c1 => ?_) (fun c1 => ?_)
  · refine zw_some ?_
    first | exact True.intro | ((try dsimp only); (repeat' apply And.intro) <;> first | with_reducible assumption | first | lia | grind [zu_at, zu_atL, zvn])
  refine zw_if (fun c2 => ?_) (fun c2 => ?_)
  · refine zw_some ?_
    first | exact True.intro | ((try dsimp only); (repeat' apply And.intro) <;> first | with_reducible assumption | first | lia | grind [zu_at, zu_atL, zvn])
  refine zw_if (fun c3 => ?_) (fun c3 => ?_)
  · refine zw_zb0 (sf_X12_inputs f1 f6 (by first | with_reducible assumption | exact ⟨by with_reducible assumption, by with_reducible assumption⟩ | first | lia | grind [zu_at, zu_atL, zvn])) (fun o_8 ho_8 => ?_)
    obtain ⟨ho_8_0, ho_8_1⟩ := ho_8
    refine zw_some ?_
    first | exact True.intro | ((try dsimp only); (repeat' apply And.intro) <;> first | with_reducible assumption | first | lia | grind [zu_at, zu_atL, zvn])
  refine zw_if (fun c4 => ?_) (fun c4 => ?_)
  · refine zw_zb0 (sf_X12_answers f1 f7 (by first | with_reducible assumption | exact ⟨by with_reducible assumption, by with_reducible assumption⟩ | first | lia | grind [zu_at, zu_atL, zvn])) (fun o_13 ho_13 => ?_)
    obtain ⟨ho_13_0, ho_13_1⟩ := ho_13
    refine zw_some ?_
    first | exact True.intro | ((try dsimp only); (repeat' apply And.intro) <;> first | with_reducible assumption | first | lia | grind [zu_at, zu_atL, zvn])
  refine zw_if (fun c5 => ?_) (fun c5 => ?_)
  · refine zw_zb0 (sf_X12_groups f1 f2 (by first | with_reducible assumption | exact ⟨by with_reducible assumption, by with_reducible assumption⟩ | first | lia | grind [zu_at, zu_atL, zvn]) (by first | with_reducible assumption | exact ⟨by with_reducible assumption, by with_reducible assumption⟩ | first | lia | grind [zu_at, zu_atL, zvn])) (fun o_18 ho_18 => ?_)
    obtain ⟨ho_18_0, ho_18_1⟩ := ho_18
    refine zw_some ?_
    first | exact True.intro | ((try dsimp only); (repeat' apply And.intro) <;> first | with_reducible assumption | first | lia | grind [zu_at, zu_atL, zvn])
  refine zw_if (fun c6 => ?_) (fun c6 => ?_)
  · refine zw_some ?_
    first | exact True.intro | ((try dsimp only); (repeat' apply And.intro) <;> first | with_reducible assumption | first | lia | grind [zu_at, zu_atL, zvn])
  refine zw_if (fun c7 => ?_) (fun c7 => ?_)
  · refine zw_if (fun c8 => ?_) (fun c8 => ?_)
    · refine zw_some ?_
      first | exact True.intro | ((try dsimp only); (repeat' apply And.intro) <;> first | with_reducible assumption | first | lia | grind [zu_at, zu_atL, zvn])
    refine zw_some ?_
    first | exact True.intro | ((try dsimp only); (repeat' apply And.intro) <;> first | with_reducible assumption | first | lia | grind [zu_at, zu_atL, zvn])
  refine zw_if (fun c9 => ?_) (fun c9 => ?_)
  · refine zw_some ?_
    first | exact True.intro | ((try dsimp only); (repeat' apply And.intro) <;> first | with_reducible assumption | first | lia | grind [zu_at, zu_atL, zvn])
  refine zw_some ?_
  first | exact True.intro | ((try dsimp only); (repeat' apply And.intro) <;> first | with_reducible assumption | first | lia | grind [zu_at, zu_atL, zvn])
set_option maxHeartbeats 4000000 in
set_option maxRecDepth 100000 in
theorem sf_X12_letter (p1 : Int32) (p2 : Int32) (p3 : Int32) (f1 : Nat → Int32) (f2 : Nat → Int32) (f3 : Nat → Int32) (f4 : Nat → Int32) (h_p2 : 0 ≤ p2 ∧ p2 ≤ 1) (h_f1 : (∀ i : Nat, 0 ≤ f1 i ∧ f1 i ≤ 14)) (h_f2 : (∀ i : Nat, 0 ≤ f2 i ∧ f2 i ≤ 4)) : zw (fn_X12_letter p1 p2 p3 f1 f2 f3 f4) (fun r => (-1) ≤ r ∧ r ≤ 31) := by
  unfold fn_X12_letter
  refine zw_zj (fun s_1 => (s_1 = 0 ∨ p2 = 0 ∧ 0 ≤ p1 ∧ p1 < f1 (0 : Int32).toNatClampNeg ∨ ¬ p2 = 0 ∧ 0 ≤ p1 ∧ p1 < f2 (0 : Int32).toNatClampNeg) ∧ 0 ≤ s_1 ∧ s_1 ≤ 1) (fun s_1 Hj_1 => ?_) (fun j_1 hj_1 => ?_)
  · obtain ⟨Hj_1_0, Hj_1_1, Hj_1_2⟩ := Hj_1
    refine zw_if (fun c1 => ?_) (fun c1 => ?_)
    · refine zw_some ?_
      first | exact True.intro | ((try dsimp only); (repeat' apply And.intro) <;> first | with_reducible assumption | first | lia | grind [zu_at, zu_atL, zvn, zand31])
    refine zw_zb0 (sf_X12_isIn p3.toInt64 (0 : Int64) (5 : Int64)) (fun o_3 ho_3 => ?_)
    obtain ⟨ho_3_0, ho_3_1, ho_3_2, ho_3_3, ho_3_4⟩ := ho_3
    refine zw_if (fun c2 => ?_) (fun c2 => ?_)
    · refine zw_some ?_
      first | exact True.intro | ((try dsimp only); (repeat' apply And.intro) <;> first | with_reducible assumption | first | lia | grind [zu_at, zu_atL, zvn, zand31])
    refine zw_if (fun c3 => ?_) (fun c3 => ?_)
    · refine zw_zg32 28 (by decide) (by (try dsimp only); first | lia | grind [zu_at, zu_atL, zvn, zand31]) ?_
      refine zw_some ?_
      first | exact True.intro | ((try dsimp only); (repeat' apply And.intro) <;> first | with_reducible assumption | first | lia | grind [zu_at, zu_atL, zvn, zand31])
    refine zw_zg32 8 (by decide) (by (try dsimp only); first | lia | grind [zu_at, zu_atL, zvn, zand31]) ?_
    refine zw_some ?_
    first | exact True.intro | ((try dsimp only); (repeat' apply And.intro) <;> first | with_reducible assumption | first | lia | grind [zu_at, zu_atL, zvn, zand31])
  refine zw_if (fun c4 => ?_) (fun c4 => ?_)
  · refine zw_zb0 (sf_X12_isNumber p1 f1 (by first | with_reducible assumption | exact ⟨by with_reducible assumption, by with_reducible assumption⟩ | first | lia | grind [zu_at, zu_atL, zvn, zand31])) (fun o_12 ho_12 => ?_)
    obtain ⟨ho_12_0, ho_12_1, ho_12_2, ho_12_3, ho_12_4, ho_12_5⟩ := ho_12
    exact hj_1 _ (by first | exact True.intro | ((try dsimp only); (repeat' apply And.intro) <;> first | with_reducible assumption | first | lia | grind [zu_at, zu_atL, zvn, zand31]))
  refine zw_zb0 (sf_X12_isFormat p1 f2 (by first | with_reducible assumption | exact ⟨by with_reducible assumption, by with_reducible assumption⟩ | first | lia | grind [zu_at, zu_atL, zvn, zand31])) (fun o_16 ho_16 => ?_)
  obtain ⟨ho_16_0, ho_16_1, ho_16_2, ho_16_3, ho_16_4, ho_16_5, ho_16_6⟩ := ho_16
  exact hj_1 _ (by first | exact True.intro | ((try dsimp only); (repeat' apply And.intro) <;> first | with_reducible assumption | first | lia | grind [zu_at, zu_atL, zvn, zand31]))
set_option maxHeartbeats 4000000 in
set_option maxRecDepth 100000 in
theorem sf_X12_format (p1 : Int32) (p2 : Int32) (f1 : Nat → Int32) (f2 : Nat → Int32) (f3 : Nat → Int32) (f4 : Nat → Int32) (h_f1 : (∀ i : Nat, 0 ≤ f1 i ∧ f1 i ≤ 4)) : zw (fn_X12_format p1 p2 f1 f2 f3 f4) (fun r => True) := by
  unfold fn_X12_format
  refine zw_zb0 (sf_X12_isFormat p1 f1 (by first | with_reducible assumption | exact ⟨by with_reducible assumption, by with_reducible assumption⟩ | first | lia | grind [zu_at, zu_atL, zvn])) (fun o_1 ho_1 => ?_)
  obtain ⟨ho_1_0, ho_1_1, ho_1_2, ho_1_3, ho_1_4, ho_1_5, ho_1_6⟩ := ho_1
  refine zw_if (fun c1 => ?_) (fun c1 => ?_)
  · refine zw_some ?_
    first | exact True.intro | ((try dsimp only); (repeat' apply And.intro) <;> first | with_reducible assumption | first | lia | grind [zu_at, zu_atL, zvn])
  refine zw_if (fun c2 => ?_) (fun c2 => ?_)
  · refine zw_zg32 8 (by decide) (by (try dsimp only); first | lia | grind [zu_at, zu_atL, zvn]) ?_
    refine zw_some ?_
    first | exact True.intro | ((try dsimp only); (repeat' apply And.intro) <;> first | with_reducible assumption | first | lia | grind [zu_at, zu_atL, zvn])
  refine zw_if (fun c3 => ?_) (fun c3 => ?_)
  · refine zw_zg32 8 (by decide) (by (try dsimp only); first | lia | grind [zu_at, zu_atL, zvn]) ?_
    refine zw_some ?_
    first | exact True.intro | ((try dsimp only); (repeat' apply And.intro) <;> first | with_reducible assumption | first | lia | grind [zu_at, zu_atL, zvn])
  refine zw_if (fun c4 => ?_) (fun c4 => ?_)
  · refine zw_zg32 8 (by decide) (by (try dsimp only); first | lia | grind [zu_at, zu_atL, zvn]) ?_
    refine zw_some ?_
    first | exact True.intro | ((try dsimp only); (repeat' apply And.intro) <;> first | with_reducible assumption | first | lia | grind [zu_at, zu_atL, zvn])
  refine zw_some ?_
  first | exact True.intro | ((try dsimp only); (repeat' apply And.intro) <;> first | with_reducible assumption | first | lia | grind [zu_at, zu_atL, zvn])
set_option maxHeartbeats 4000000 in
set_option maxRecDepth 100000 in
theorem sf_X12_groupPlace (p1 : Int32) (f1 : Nat → Int32) (h_p1 : 0 ≤ p1 ∧ p1 ≤ 13) (h_f1 : (∀ i : Nat, 0 ≤ f1 i ∧ f1 i ≤ 13)) : zw (fn_X12_groupPlace p1 f1) (fun r => 0 ≤ r ∧ r ≤ 13) := by
  unfold fn_X12_groupPlace
  refine zw_zl32 (fun s_1 => 0 ≤ s_1.1 ∧ 0 ≤ s_1.2 ∧ s_1.1 ≤ 13 ∧ s_1.2 ≤ 13 ∧ s_1.1 ≤ s_1.2) (fun s_1 => 13 - s_1.2) (by (try dsimp only); (repeat' apply And.intro) <;> first | with_reducible assumption | first | lia | grind [zu_at, zu_atL, zvn]) (by (try dsimp only); first | lia | grind [zu_at, zu_atL, zvn]) (fun s_1 back_1 Hback_1 hback_1 => ?_)
  obtain ⟨s_1_0, s_1_1⟩ := s_1
  try dsimp only at Hback_1 hback_1
  obtain ⟨Hback_1_0, Hback_1_1, Hback_1_2, Hback_1_3, Hback_1_4⟩ := Hback_1
  refine zw_zg32 28 (by decide) (by (try dsimp only); ((try clear hback_1); first | lia | grind [zu_at, zu_atL, zvn])) ?_
  refine zw_if (fun c1 => ?_) (fun c1 => ?_)
  · refine zw_some ?_
    first | exact True.intro | ((try dsimp only); (repeat' apply And.intro) <;> first | with_reducible assumption | ((try clear hback_1); first | lia | grind [zu_at, zu_atL, zvn]))
  refine zw_zg32 28 (by decide) (by (try dsimp only); ((try clear hback_1); first | lia | grind [zu_at, zu_atL, zvn])) ?_
  refine zw_if (fun c2 => ?_) (fun c2 => ?_)
  · exact hback_1 _ (by (try dsimp only); (repeat' apply And.intro) <;> first | with_reducible assumption | ((try clear hback_1); first | lia | grind [zu_at, zu_atL, zvn])) (by (try dsimp only); ((try clear hback_1); first | lia | grind [zu_at, zu_atL, zvn])) (by (try dsimp only); ((try clear hback_1); first | lia | grind [zu_at, zu_atL, zvn]))
  exact hback_1 _ (by (try dsimp only); (repeat' apply And.intro) <;> first | with_reducible assumption | ((try clear hback_1); first | lia | grind [zu_at, zu_atL, zvn])) (by (try dsimp only); ((try clear hback_1); first | lia | grind [zu_at, zu_atL, zvn])) (by (try dsimp only); ((try clear hback_1); first | lia | grind [zu_at, zu_atL, zvn]))
set_option maxHeartbeats 4000000 in
set_option maxRecDepth 100000 in
theorem sf_X12_number_ (p1 : Int32) (p2 : Int32) (f1 : Nat → Int32) (f2 : Nat → Int32) (f3 : Nat → Int32) (f4 : Nat → Int32) (f5 : Nat → Int32) (f6 : Nat → Int32) (f7 : Nat → Int32) (h_f1 : (∀ i : Nat, 0 ≤ f1 i ∧ f1 i ≤ 14)) (h_f3 : (∀ i : Nat, (-1) ≤ f3 i ∧ f3 i ≤ 13)) (h_f4 : (∀ i : Nat, (-1) ≤ f4 i ∧ f4 i ≤ 13)) (h_f5 : (∀ i : Nat, 0 ≤ f5 i ∧ f5 i ≤ 13)) (h_f6 : (∀ i : Nat, (-1) ≤ f6 i ∧ f6 i ≤ 3)) : zw (fn_X12_number_ p1 p2 f1 f2 f3 f4 f5 f6 f7) (fun r => True) := by
  unfold fn_X12_number_
  refine zw_zb0 (sf_X12_isNumber p1 f1 (by first | with_reducible assumption | exact ⟨by with_reducible assumption, by with_reducible assumption⟩ | first | lia | grind [zu_at, zu_atL, zvn])) (fun o_1 ho_1 => ?_)
  obtain ⟨ho_1_0, ho_1_1, ho_1_2, ho_1_3, ho_1_4, ho_1_5⟩ := ho_1
  refine zw_if (fun c1 => ?_) (fun c1 => ?_)
  · refine zw_some ?_
    first | exact True.intro | ((try dsimp only); (repeat' apply And.intro) <;> first | with_reducible assumption | first | lia | grind [zu_at, zu_atL, zvn])
  refine zw_if (fun c2 => ?_) (fun c2 => ?_)
  · refine zw_zg32 28 (by decide) (by (try dsimp only); first | lia | grind [zu_at, zu_atL, zvn]) ?_
    refine zw_some ?_
    first | exact True.intro | ((try dsimp only); (repeat' apply And.intro) <;> first | with_reducible assumption | first | lia | grind [zu_at, zu_atL, zvn])
  refine zw_if (fun c3 => ?_) (fun c3 => ?_)
  · refine zw_zg32 28 (by decide) (by (try dsimp only); first | lia | grind [zu_at, zu_atL, zvn]) ?_
    refine zw_some ?_
    first | exact True.intro | ((try dsimp only); (repeat' apply And.intro) <;> first | with_reducible assumption | first | lia | grind [zu_at, zu_atL, zvn])
  refine zw_if (fun c4 => ?_) (fun c4 => ?_)
  · refine zw_zg32 28 (by decide) (by (try dsimp only); first | lia | grind [zu_at, zu_atL, zvn]) ?_
    refine zw_some ?_
    first | exact True.intro | ((try dsimp only); (repeat' apply And.intro) <;> first | with_reducible assumption | first | lia | grind [zu_at, zu_atL, zvn])
  refine zw_if (fun c5 => ?_) (fun c5 => ?_)
  · refine zw_zb0 (sf_X12_groupPlace p1 f5 (by first | with_reducible assumption | exact ⟨by with_reducible assumption, by with_reducible assumption⟩ | first | lia | grind [zu_at, zu_atL, zvn]) (by first | with_reducible assumption | exact ⟨by with_reducible assumption, by with_reducible assumption⟩ | first | lia | grind [zu_at, zu_atL, zvn])) (fun o_13 ho_13 => ?_)
    obtain ⟨ho_13_0, ho_13_1⟩ := ho_13
    refine zw_some ?_
    first | exact True.intro | ((try dsimp only); (repeat' apply And.intro) <;> first | with_reducible assumption | first | lia | grind [zu_at, zu_atL, zvn])
  refine zw_if (fun c6 => ?_) (fun c6 => ?_)
  · refine zw_zg32 28 (by decide) (by (try dsimp only); first | lia | grind [zu_at, zu_atL, zvn]) ?_
    refine zw_some ?_
    first | exact True.intro | ((try dsimp only); (repeat' apply And.intro) <;> first | with_reducible assumption | first | lia | grind [zu_at, zu_atL, zvn])
  refine zw_if (fun c7 => ?_) (fun c7 => ?_)
  · refine zw_zg32 28 (by decide) (by (try dsimp only); first | lia | grind [zu_at, zu_atL, zvn]) ?_
    refine zw_some ?_
    first | exact True.intro | ((try dsimp only); (repeat' apply And.intro) <;> first | with_reducible assumption | first | lia | grind [zu_at, zu_atL, zvn])
  refine zw_some ?_
  first | exact True.intro | ((try dsimp only); (repeat' apply And.intro) <;> first | with_reducible assumption | first | lia | grind [zu_at, zu_atL, zvn])
set_option maxHeartbeats 4000000 in
set_option maxRecDepth 100000 in
theorem sf_X12_told (p1 : Int32) (p2 : Int32) (f1 : Nat → Int32) (f2 : Nat → Int32) (f3 : Nat → Int32) (f4 : Nat → Int32) (f5 : Nat → Int64) (f6 : Nat → Int64) (h_f1 : (∀ i : Nat, 0 ≤ f1 i ∧ f1 i ≤ 14)) (h_f3 : (∀ i : Nat, (-1) ≤ f3 i ∧ f3 i ≤ 13)) (h_f4 : (∀ i : Nat, (-1) ≤ f4 i ∧ f4 i ≤ 13)) : zw (fn_X12_told p1 p2 f1 f2 f3 f4 f5 f6) (fun r => True) := by
  unfold fn_X12_told
  refine zw_zb0 (sf_X12_isNumber p1 f1 (by first | with_reducible assumption | exact ⟨by with_reducible assumption, by with_reducible assumption⟩ | first | lia | grind [zu_at, zu_atL, zvn])) (fun o_1 ho_1 => ?_)
  obtain ⟨ho_1_0, ho_1_1, ho_1_2, ho_1_3, ho_1_4, ho_1_5⟩ := ho_1
  refine zw_if (fun c1 => ?_) (fun c1 => ?_)
  · refine zw_some ?_
    first | exact True.intro | ((try dsimp only); (repeat' apply And.intro) <;> first | with_reducible assumption | first | lia | grind [zu_at, zu_atL, zvn])
  refine zw_zb0 (sf_X12_isIn p2.toInt64 (0 : Int64) (1 : Int64)) (fun o_6 ho_6 => ?_)
  obtain ⟨ho_6_0, ho_6_1, ho_6_2, ho_6_3, ho_6_4⟩ := ho_6
  refine zw_if (fun c2 => ?_) (fun c2 => ?_)
  · refine zw_some ?_
    first | exact True.intro | ((try dsimp only); (repeat' apply And.intro) <;> first | with_reducible assumption | first | lia | grind [zu_at, zu_atL, zvn])
  refine zw_zg32 28 (by decide) (by (try dsimp only); first | lia | grind [zu_at, zu_atL, zvn]) ?_
  refine zw_zj (fun _ => True) (fun s_12 Hj_12 => ?_) (fun j_12 hj_12 => ?_)
  · refine zw_if (fun c3 => ?_) (fun c3 => ?_)
    · refine zw_zg32 28 (by decide) (by (try dsimp only); ((try clear hj_12); first | lia | grind [zu_at, zu_atL, zvn])) ?_
      refine zw_some ?_
      first | exact True.intro | ((try dsimp only); (repeat' apply And.intro) <;> first | with_reducible assumption | ((try clear hj_12); first | lia | grind [zu_at, zu_atL, zvn]))
    refine zw_zg32 28 (by decide) (by (try dsimp only); ((try clear hj_12); first | lia | grind [zu_at, zu_atL, zvn])) ?_
    refine zw_some ?_
    first | exact True.intro | ((try dsimp only); (repeat' apply And.intro) <;> first | with_reducible assumption | ((try clear hj_12); first | lia | grind [zu_at, zu_atL, zvn]))
  refine zw_if (fun c4 => ?_) (fun c4 => ?_)
  · exact hj_12 _ (by first | exact True.intro | ((try dsimp only); (repeat' apply And.intro) <;> first | with_reducible assumption | ((try clear hj_12); first | lia | grind [zu_at, zu_atL, zvn])))
  refine zw_zj (fun s_17 => (-1) ≤ s_17 ∧ s_17 ≤ 13) (fun s_17 Hj_17 => ?_) (fun j_17 hj_17 => ?_)
  · obtain ⟨Hj_17_0, Hj_17_1⟩ := Hj_17
    refine zw_if (fun c5 => ?_) (fun c5 => ?_)
    · exact hj_12 _ (by first | exact True.intro | ((try dsimp only); (repeat' apply And.intro) <;> first | with_reducible assumption | ((try clear hj_12); (try clear hj_17); first | lia | grind [zu_at, zu_atL, zvn])))
    refine zw_some ?_
    first | exact True.intro | ((try dsimp only); (repeat' apply And.intro) <;> first | with_reducible assumption | ((try clear hj_12); (try clear hj_17); first | lia | grind [zu_at, zu_atL, zvn]))
  refine zw_if (fun c6 => ?_) (fun c6 => ?_)
  · exact hj_17 _ (by first | exact True.intro | ((try dsimp only); (repeat' apply And.intro) <;> first | with_reducible assumption | ((try clear hj_12); (try clear hj_17); first | lia | grind [zu_at, zu_atL, zvn])))
  exact hj_17 _ (by first | exact True.intro | ((try dsimp only); (repeat' apply And.intro) <;> first | with_reducible assumption | ((try clear hj_12); (try clear hj_17); first | lia | grind [zu_at, zu_atL, zvn])))
set_option maxHeartbeats 4000000 in
set_option maxRecDepth 100000 in
theorem sf_X12_rounded (j0 : Int64) (j1 : Int64) (h_j1 : 1 ≤ j1 ∧ j1 ≤ 2147483647) : zw (fn_X12_rounded j0 j1) (fun r => True) := by
  unfold fn_X12_rounded
  refine zw_zb0 (sf_X12_floor (((2 : Int64) * j0) + j1) ((2 : Int64) * j1) (by first | with_reducible assumption | exact ⟨by with_reducible assumption, by with_reducible assumption⟩ | first | lia | grind [zu_at, zu_atL, zvn])) (fun o_1 ho_1 => ?_)
  refine zw_some ?_
  first | exact True.intro | ((try dsimp only); (repeat' apply And.intro) <;> first | with_reducible assumption | first | lia | grind [zu_at, zu_atL, zvn])
set_option maxHeartbeats 4000000 in
set_option maxRecDepth 100000 in
theorem sf_X12_roundedProduct (j0 : Int64) (j1 : Int64) (j2 : Int64) (h_j2 : 1 ≤ j2 ∧ j2 ≤ 2147483647) : zw (fn_X12_roundedProduct j0 j1 j2) (fun r => True) := by
  unfold fn_X12_roundedProduct
  refine zw_zb0 (sf_X12_floor ((((2 : Int64) * j0) * j1) + ((1000 : Int64) * j2)) ((2000 : Int64) * j2) (by first | with_reducible assumption | exact ⟨by with_reducible assumption, by with_reducible assumption⟩ | first | lia | grind [zu_at, zu_atL, zvn])) (fun o_1 ho_1 => ?_)
  refine zw_some ?_
  first | exact True.intro | ((try dsimp only); (repeat' apply And.intro) <;> first | with_reducible assumption | first | lia | grind [zu_at, zu_atL, zvn])
set_option maxHeartbeats 4000000 in
set_option maxRecDepth 100000 in
theorem sf_X12_two (p0 : Int32) (j1 : Int64) (j2 : Int64) (j3 : Int64) (h_j3 : 1 ≤ j3 ∧ j3 ≤ 2147483647) : zw (fn_X12_two p0 j1 j2 j3) (fun r => True) := by
  unfold fn_X12_two
  refine zw_if (fun c1 => ?_) (fun c1 => ?_)
  · refine zw_some ?_
    first | exact True.intro | ((try dsimp only); (repeat' apply And.intro) <;> first | with_reducible assumption | first | lia | grind [zu_at, zu_atL, zvn])
  refine zw_if (fun c2 => ?_) (fun c2 => ?_)
  · refine zw_some ?_
    first | exact True.intro | ((try dsimp only); (repeat' apply And.intro) <;> first | with_reducible assumption | first | lia | grind [zu_at, zu_atL, zvn])
  refine zw_if (fun c3 => ?_) (fun c3 => ?_)
  · refine zw_zb0 (sf_X12_roundedProduct j1 j2 j3 (by first | with_reducible assumption | exact ⟨by with_reducible assumption, by with_reducible assumption⟩ | first | lia | grind [zu_at, zu_atL, zvn])) (fun o_4 ho_4 => ?_)
    refine zw_some ?_
    first | exact True.intro | ((try dsimp only); (repeat' apply And.intro) <;> first | with_reducible assumption | first | lia | grind [zu_at, zu_atL, zvn])
  refine zw_if (fun c4 => ?_) (fun c4 => ?_)
  · refine zw_zb0 (sf_X12_lesser j1 j2) (fun o_9 ho_9 => ?_)
    refine zw_some ?_
    first | exact True.intro | ((try dsimp only); (repeat' apply And.intro) <;> first | with_reducible assumption | first | lia | grind [zu_at, zu_atL, zvn])
  refine zw_zb0 (sf_X12_greater j1 j2) (fun o_13 ho_13 => ?_)
  refine zw_some ?_
  first | exact True.intro | ((try dsimp only); (repeat' apply And.intro) <;> first | with_reducible assumption | first | lia | grind [zu_at, zu_atL, zvn])
set_option maxHeartbeats 4000000 in
set_option maxRecDepth 100000 in
theorem sf_X12_lowOf (p1 : Int32) (p2 : Int32) (f1 : Nat → Int32) (f2 : Nat → Int32) (f3 : Nat → Int64) (f4 : Nat → Int64) (f5 : Nat → Int64) (h_p1 : 0 ≤ p1 ∧ p1 ≤ 13) (h_p2 : 0 ≤ p2 ∧ p2 ≤ 1) (h_f1 : (∀ i : Nat, (-1) ≤ f1 i ∧ f1 i ≤ 13)) (h_f2 : (∀ i : Nat, (-1) ≤ f2 i ∧ f2 i ≤ 13)) : zw (fn_X12_lowOf p1 p2 f1 f2 f3 f4 f5) (fun r => True) := by
  unfold fn_X12_lowOf
  refine zw_zj (fun s_1 => (-1) ≤ s_1 ∧ s_1 ≤ 13) (fun s_1 Hj_1 => ?_) (fun j_1 hj_1 => ?_)
  · obtain ⟨Hj_1_0, Hj_1_1⟩ := Hj_1
    refine zw_if (fun c1 => ?_) (fun c1 => ?_)
    · refine zw_if (fun c2 => ?_) (fun c2 => ?_)
      · refine zw_zg32 28 (by decide) (by (try dsimp only); ((try clear hj_1); first | lia | grind [zu_at, zu_atL, zvn])) ?_
        refine zw_some ?_
        first | exact True.intro | ((try dsimp only); (repeat' apply And.intro) <;> first | with_reducible assumption | ((try clear hj_1); first | lia | grind [zu_at, zu_atL, zvn]))
      refine zw_zg32 28 (by decide) (by (try dsimp only); ((try clear hj_1); first | lia | grind [zu_at, zu_atL, zvn])) ?_
      refine zw_some ?_
      first | exact True.intro | ((try dsimp only); (repeat' apply And.intro) <;> first | with_reducible assumption | ((try clear hj_1); first | lia | grind [zu_at, zu_atL, zvn]))
    refine zw_zg32 14 (by decide) (by (try dsimp only); ((try clear hj_1); first | lia | grind [zu_at, zu_atL, zvn])) ?_
    refine zw_some ?_
    first | exact True.intro | ((try dsimp only); (repeat' apply And.intro) <;> first | with_reducible assumption | ((try clear hj_1); first | lia | grind [zu_at, zu_atL, zvn]))
  refine zw_if (fun c3 => ?_) (fun c3 => ?_)
  · refine zw_zg32 28 (by decide) (by (try dsimp only); ((try clear hj_1); first | lia | grind [zu_at, zu_atL, zvn])) ?_
    exact hj_1 _ (by first | exact True.intro | ((try dsimp only); (repeat' apply And.intro) <;> first | with_reducible assumption | ((try clear hj_1); first | lia | grind [zu_at, zu_atL, zvn])))
  refine zw_zg32 28 (by decide) (by (try dsimp only); ((try clear hj_1); first | lia | grind [zu_at, zu_atL, zvn])) ?_
  exact hj_1 _ (by first | exact True.intro | ((try dsimp only); (repeat' apply And.intro) <;> first | with_reducible assumption | ((try clear hj_1); first | lia | grind [zu_at, zu_atL, zvn])))
set_option maxHeartbeats 4000000 in
set_option maxRecDepth 100000 in
theorem sf_X12_highOf (p1 : Int32) (p2 : Int32) (f1 : Nat → Int32) (f2 : Nat → Int32) (f3 : Nat → Int64) (f4 : Nat → Int64) (f5 : Nat → Int64) (h_p1 : 0 ≤ p1 ∧ p1 ≤ 13) (h_p2 : 0 ≤ p2 ∧ p2 ≤ 1) (h_f1 : (∀ i : Nat, (-1) ≤ f1 i ∧ f1 i ≤ 13)) (h_f2 : (∀ i : Nat, (-1) ≤ f2 i ∧ f2 i ≤ 13)) : zw (fn_X12_highOf p1 p2 f1 f2 f3 f4 f5) (fun r => True) := by
  unfold fn_X12_highOf
  refine zw_zj (fun s_1 => (-1) ≤ s_1 ∧ s_1 ≤ 13) (fun s_1 Hj_1 => ?_) (fun j_1 hj_1 => ?_)
  · obtain ⟨Hj_1_0, Hj_1_1⟩ := Hj_1
    refine zw_if (fun c1 => ?_) (fun c1 => ?_)
    · refine zw_if (fun c2 => ?_) (fun c2 => ?_)
      · refine zw_zg32 28 (by decide) (by (try dsimp only); ((try clear hj_1); first | lia | grind [zu_at, zu_atL, zvn])) ?_
        refine zw_some ?_
        first | exact True.intro | ((try dsimp only); (repeat' apply And.intro) <;> first | with_reducible assumption | ((try clear hj_1); first | lia | grind [zu_at, zu_atL, zvn]))
      refine zw_zg32 28 (by decide) (by (try dsimp only); ((try clear hj_1); first | lia | grind [zu_at, zu_atL, zvn])) ?_
      refine zw_some ?_
      first | exact True.intro | ((try dsimp only); (repeat' apply And.intro) <;> first | with_reducible assumption | ((try clear hj_1); first | lia | grind [zu_at, zu_atL, zvn]))
    refine zw_zg32 14 (by decide) (by (try dsimp only); ((try clear hj_1); first | lia | grind [zu_at, zu_atL, zvn])) ?_
    refine zw_some ?_
    first | exact True.intro | ((try dsimp only); (repeat' apply And.intro) <;> first | with_reducible assumption | ((try clear hj_1); first | lia | grind [zu_at, zu_atL, zvn]))
  refine zw_if (fun c3 => ?_) (fun c3 => ?_)
  · refine zw_zg32 28 (by decide) (by (try dsimp only); ((try clear hj_1); first | lia | grind [zu_at, zu_atL, zvn])) ?_
    exact hj_1 _ (by first | exact True.intro | ((try dsimp only); (repeat' apply And.intro) <;> first | with_reducible assumption | ((try clear hj_1); first | lia | grind [zu_at, zu_atL, zvn])))
  refine zw_zg32 28 (by decide) (by (try dsimp only); ((try clear hj_1); first | lia | grind [zu_at, zu_atL, zvn])) ?_
  exact hj_1 _ (by first | exact True.intro | ((try dsimp only); (repeat' apply And.intro) <;> first | with_reducible assumption | ((try clear hj_1); first | lia | grind [zu_at, zu_atL, zvn])))
set_option maxHeartbeats 4000000 in
set_option maxRecDepth 100000 in
theorem sf_X12_laysRange (p1 : Int32) (v0_33 : Int32) (w0_34 : Int64) (f1 : Nat → Int32) (f2 : Nat → Int32) (f3 : Nat → Int32) (f4 : Nat → Int64) (f5 : Nat → Int64) (f6 : Nat → Int64) (f7 : Nat → Int64) (h_p1 : 0 ≤ p1 ∧ p1 ≤ 13) (h_f2 : (∀ i : Nat, (-1) ≤ f2 i ∧ f2 i ≤ 13)) (h_f3 : (∀ i : Nat, (-1) ≤ f3 i ∧ f3 i ≤ 13)) : zw (fn_X12_laysRange p1 v0_33 w0_34 f1 f2 f3 f4 f5 f6 f7) (fun r => True) := by
  unfold fn_X12_laysRange
  refine zw_zg32 28 (by decide) (by (try dsimp only); first | lia | grind [zu_at, zu_atL, zvn]) ?_
  refine zw_if (fun c1 => ?_) (fun c1 => ?_)
  · refine zw_zj (fun s_72 => True) (fun s_72 Hj_72 => ?_) (fun j_72 hj_72 => ?_)
    · refine zw_zg32 28 (by decide) (by (try dsimp only); ((try clear hj_72); first | lia | grind [zu_at, zu_atL, zvn])) ?_
      refine zw_zg32 14 (by decide) (by (try dsimp only); ((try clear hj_72); first | lia | grind [zu_at, zu_atL, zvn])) ?_
      refine zw_some ?_
      first | exact True.intro | ((try dsimp only); (repeat' apply And.intro) <;> first | with_reducible assumption | ((try clear hj_72); first | lia | grind [zu_at, zu_atL, zvn]))
    refine zw_if (fun c2 => ?_) (fun c2 => ?_)
    · exact hj_72 _ (by first | exact True.intro | ((try dsimp only); (repeat' apply And.intro) <;> first | with_reducible assumption | ((try clear hj_72); first | lia | grind [zu_at, zu_atL, zvn])))
    exact hj_72 _ (by first | exact True.intro | ((try dsimp only); (repeat' apply And.intro) <;> first | with_reducible assumption | ((try clear hj_72); first | lia | grind [zu_at, zu_atL, zvn])))
  refine zw_zb0 (sf_X12_lowOf p1 0 f2 f3 f4 f5 f6 (by first | with_reducible assumption | exact ⟨by with_reducible assumption, by with_reducible assumption⟩ | ((try clear hj_72); first | lia | grind [zu_at, zu_atL, zvn])) (by first | with_reducible assumption | exact ⟨by with_reducible assumption, by with_reducible assumption⟩ | ((try clear hj_72); first | lia | grind [zu_at, zu_atL, zvn])) (by first | with_reducible assumption | exact ⟨by with_reducible assumption, by with_reducible assumption⟩ | ((try clear hj_72); first | lia | grind [zu_at, zu_atL, zvn])) (by first | with_reducible assumption | exact ⟨by with_reducible assumption, by with_reducible assumption⟩ | ((try clear hj_72); first | lia | grind [zu_at, zu_atL, zvn]))) (fun o_3 ho_3 => ?_)
  refine zw_zb0 (sf_X12_highOf p1 0 f2 f3 f7 f5 f6 (by first | with_reducible assumption | exact ⟨by with_reducible assumption, by with_reducible assumption⟩ | ((try clear hj_72); first | lia | grind [zu_at, zu_atL, zvn])) (by first | with_reducible assumption | exact ⟨by with_reducible assumption, by with_reducible assumption⟩ | ((try clear hj_72); first | lia | grind [zu_at, zu_atL, zvn])) (by first | with_reducible assumption | exact ⟨by with_reducible assumption, by with_reducible assumption⟩ | ((try clear hj_72); first | lia | grind [zu_at, zu_atL, zvn])) (by first | with_reducible assumption | exact ⟨by with_reducible assumption, by with_reducible assumption⟩ | ((try clear hj_72); first | lia | grind [zu_at, zu_atL, zvn]))) (fun o_7 ho_7 => ?_)
  refine zw_zb0 (sf_X12_lowOf p1 1 f2 f3 f4 f5 f6 (by first | with_reducible assumption | exact ⟨by with_reducible assumption, by with_reducible assumption⟩ | ((try clear hj_72); first | lia | grind [zu_at, zu_atL, zvn])) (by first | with_reducible assumption | exact ⟨by with_reducible assumption, by with_reducible assumption⟩ | ((try clear hj_72); first | lia | grind [zu_at, zu_atL, zvn])) (by first | with_reducible assumption | exact ⟨by with_reducible assumption, by with_reducible assumption⟩ | ((try clear hj_72); first | lia | grind [zu_at, zu_atL, zvn])) (by first | with_reducible assumption | exact ⟨by with_reducible assumption, by with_reducible assumption⟩ | ((try clear hj_72); first | lia | grind [zu_at, zu_atL, zvn]))) (fun o_11 ho_11 => ?_)
  refine zw_zb0 (sf_X12_highOf p1 1 f2 f3 f7 f5 f6 (by first | with_reducible assumption | exact ⟨by with_reducible assumption, by with_reducible assumption⟩ | ((try clear hj_72); first | lia | grind [zu_at, zu_atL, zvn])) (by first | with_reducible assumption | exact ⟨by with_reducible assumption, by with_reducible assumption⟩ | ((try clear hj_72); first | lia | grind [zu_at, zu_atL, zvn])) (by first | with_reducible assumption | exact ⟨by with_reducible assumption, by with_reducible assumption⟩ | ((try clear hj_72); first | lia | grind [zu_at, zu_atL, zvn])) (by first | with_reducible assumption | exact ⟨by with_reducible assumption, by with_reducible assumption⟩ | ((try clear hj_72); first | lia | grind [zu_at, zu_atL, zvn]))) (fun o_15 ho_15 => ?_)
  refine zw_if (fun c3 => ?_) (fun c3 => ?_)
  · refine zw_zg32 14 (by decide) (by (try dsimp only); ((try clear hj_72); first | lia | grind [zu_at, zu_atL, zvn])) ?_
    refine zw_some ?_
    first | exact True.intro | ((try dsimp only); (repeat' apply And.intro) <;> first | with_reducible assumption | ((try clear hj_72); first | lia | grind [zu_at, zu_atL, zvn]))
  refine zw_if (fun c4 => ?_) (fun c4 => ?_)
  · refine zw_zb0 (sf_X12_two 3 o_3 o_11 (1 : Int64) (by first | with_reducible assumption | exact ⟨by with_reducible assumption, by with_reducible assumption⟩ | ((try clear hj_72); first | lia | grind [zu_at, zu_atL, zvn]))) (fun o_30 ho_30 => ?_)
    refine zw_zb0 (sf_X12_two 3 o_3 o_15 (1 : Int64) (by first | with_reducible assumption | exact ⟨by with_reducible assumption, by with_reducible assumption⟩ | ((try clear hj_72); first | lia | grind [zu_at, zu_atL, zvn]))) (fun o_34 ho_34 => ?_)
    refine zw_zb0 (sf_X12_two 3 o_7 o_11 (1 : Int64) (by first | with_reducible assumption | exact ⟨by with_reducible assumption, by with_reducible assumption⟩ | ((try clear hj_72); first | lia | grind [zu_at, zu_atL, zvn]))) (fun o_38 ho_38 => ?_)
    refine zw_zb0 (sf_X12_two 3 o_7 o_15 (1 : Int64) (by first | with_reducible assumption | exact ⟨by with_reducible assumption, by with_reducible assumption⟩ | ((try clear hj_72); first | lia | grind [zu_at, zu_atL, zvn]))) (fun o_42 ho_42 => ?_)
    refine zw_zb0 (sf_X12_lesser o_30 o_34) (fun o_46 ho_46 => ?_)
    refine zw_zb0 (sf_X12_lesser o_38 o_42) (fun o_50 ho_50 => ?_)
    refine zw_zb0 (sf_X12_lesser o_46 o_50) (fun o_54 ho_54 => ?_)
    refine zw_zg32 14 (by decide) (by (try dsimp only); ((try clear hj_72); first | lia | grind [zu_at, zu_atL, zvn])) ?_
    refine zw_zb0 (sf_X12_greater o_30 o_34) (fun o_59 ho_59 => ?_)
    refine zw_zb0 (sf_X12_greater o_38 o_42) (fun o_63 ho_63 => ?_)
    refine zw_zb0 (sf_X12_greater o_59 o_63) (fun o_67 ho_67 => ?_)
    refine zw_some ?_
    first | exact True.intro | ((try dsimp only); (repeat' apply And.intro) <;> first | with_reducible assumption | ((try clear hj_72); first | lia | grind [zu_at, zu_atL, zvn]))
  refine zw_zb0 (sf_X12_two (f1 p1.toNatClampNeg) o_3 o_11 (1 : Int64) (by first | with_reducible assumption | exact ⟨by with_reducible assumption, by with_reducible assumption⟩ | ((try clear hj_72); first | lia | grind [zu_at, zu_atL, zvn]))) (fun o_21 ho_21 => ?_)
  refine zw_zg32 14 (by decide) (by (try dsimp only); ((try clear hj_72); first | lia | grind [zu_at, zu_atL, zvn])) ?_
  refine zw_zb0 (sf_X12_two (f1 p1.toNatClampNeg) o_7 o_15 (1 : Int64) (by first | with_reducible assumption | exact ⟨by with_reducible assumption, by with_reducible assumption⟩ | ((try clear hj_72); first | lia | grind [zu_at, zu_atL, zvn]))) (fun o_26 ho_26 => ?_)
  refine zw_some ?_
  first | exact True.intro | ((try dsimp only); (repeat' apply And.intro) <;> first | with_reducible assumption | ((try clear hj_72); first | lia | grind [zu_at, zu_atL, zvn]))
set_option maxHeartbeats 4000000 in
set_option maxRecDepth 100000 in
theorem sf_X12_mostOf (p1 : Int32) (f1 : Nat → Int64) (f2 : Nat → Int64) (h_p1 : 0 ≤ p1 ∧ p1 ≤ 13) : zw (fn_X12_mostOf p1 f1 f2) (fun r => True) := by
  unfold fn_X12_mostOf
  refine zw_zg32 14 (by decide) (by (try dsimp only); first | lia | grind [zu_at, zu_atL, zvn]) ?_
  refine zw_zb0 (sf_X12_amount (f1 p1.toNatClampNeg)) (fun o_2 ho_2 => ?_)
  refine zw_zb0 (sf_X12_amount (f2 p1.toNatClampNeg)) (fun o_6 ho_6 => ?_)
  refine zw_zb0 (sf_X12_greater o_2 o_6) (fun o_10 ho_10 => ?_)
  refine zw_some ?_
  first | exact True.intro | ((try dsimp only); (repeat' apply And.intro) <;> first | with_reducible assumption | first | lia | grind [zu_at, zu_atL, zvn])
set_option maxHeartbeats 4000000 in
set_option maxRecDepth 100000 in
theorem sf_X12_isGreatPart (p1 : Int32) (f1 : Nat → Int32) (h_p1 : (-1) ≤ p1 ∧ p1 ≤ 13) (h_f1 : (∀ i : Nat, 0 ≤ f1 i ∧ f1 i ≤ 1)) : zw (fn_X12_isGreatPart p1 f1) (fun r => 0 ≤ r ∧ r ≤ 1 ∧ r ≤ p1 + 1 ∧ (¬ r = 0 → 0 ≤ p1 ∧ 1 ≤ r ∧ (f1 p1.toNatClampNeg) ≤ 1 ∧ 1 ≤ (f1 p1.toNatClampNeg)) ∧ (r = 1 → 0 ≤ p1 ∧ (f1 p1.toNatClampNeg) ≤ 1 ∧ 1 ≤ (f1 p1.toNatClampNeg) ∧ (f1 p1.toNatClampNeg) ≤ r) ∧ (¬ r = 1 → r ≤ 0)) := by
  unfold fn_X12_isGreatPart
  refine zw_if (fun c1 => ?_) (fun c1 => ?_)
  · refine zw_some ?_
    first | exact True.intro | ((try dsimp only); (repeat' apply And.intro) <;> first | with_reducible assumption | first | lia | grind [zu_at, zu_atL, zvn])
  refine zw_zg32 14 (by decide) (by (try dsimp only); first | lia | grind [zu_at, zu_atL, zvn]) ?_
  refine zw_if (fun c2 => ?_) (fun c2 => ?_)
  · refine zw_some ?_
    first | exact True.intro | ((try dsimp only); (repeat' apply And.intro) <;> first | with_reducible assumption | first | lia | grind [zu_at, zu_atL, zvn])
  refine zw_some ?_
  first | exact True.intro | ((try dsimp only); (repeat' apply And.intro) <;> first | with_reducible assumption | first | lia | grind [zu_at, zu_atL, zvn])
set_option maxHeartbeats 4000000 in
set_option maxRecDepth 100000 in
theorem sf_X12_range (p1 : Int32) (p2 : Int32) (v0_33 : Int32) (w0_34 : Int64) (f1 : Nat → Int32) (f2 : Nat → Int32) (f3 : Nat → Int32) (f4 : Nat → Int32) (f5 : Nat → Int32) (f6 : Nat → Int64) (f7 : Nat → Int64) (f8 : Nat → Int64) (f9 : Nat → Int64) (h_p2 : 0 ≤ p2 ∧ p2 ≤ 1) (h_f1 : (∀ i : Nat, 0 ≤ f1 i ∧ f1 i ≤ 14)) (h_f2 : (∀ i : Nat, (-1) ≤ f2 i ∧ f2 i ≤ 13)) (h_f3 : (∀ i : Nat, 0 ≤ f3 i ∧ f3 i ≤ 1)) (h_f4 : (∀ i : Nat, (-1) ≤ f4 i ∧ f4 i ≤ 13)) : zw (fn_X12_range p1 p2 v0_33 w0_34 f1 f2 f3 f4 f5 f6 f7 f8 f9) (fun r => (∀ i : Nat, 0 ≤ r.2.2.1 i ∧ r.2.2.1 i ≤ 1)) := by
  unfold fn_X12_range
  refine zw_zb0 (sf_X12_isNumber p1 f1 (by first | with_reducible assumption | exact ⟨by with_reducible assumption, by with_reducible assumption⟩ | first | lia | grind [zu_at, zu_atL, zvn])) (fun o_1 ho_1 => ?_)
  obtain ⟨ho_1_0, ho_1_1, ho_1_2, ho_1_3, ho_1_4, ho_1_5⟩ := ho_1
  refine zw_if (fun c1 => ?_) (fun c1 => ?_)
  · refine zw_some ?_
    first | exact True.intro | ((try dsimp only); (repeat' apply And.intro) <;> first | with_reducible assumption | first | lia | grind [zu_at, zu_atL, zvn])
  refine zw_zl32 (fun s_6 => (∀ i : Nat, 0 ≤ s_6.2.2.2 i ∧ s_6.2.2.2 i ≤ 1) ∧ 0 ≤ s_6.1 ∧ s_6.1 ≤ 14 ∧ s_6.1 ≤ p1 + 1) (fun s_6 => 14 - s_6.1) (by (try dsimp only); (repeat' apply And.intro) <;> first | with_reducible assumption | first | lia | grind [zu_at, zu_atL, zvn]) (by (try dsimp only); first | lia | grind [zu_at, zu_atL, zvn]) (fun s_6 back_6 Hback_6 hback_6 => ?_)
  obtain ⟨s_6_0, s_6_1, s_6_2, s_6_3⟩ := s_6
  try dsimp only at Hback_6 hback_6
  obtain ⟨Hback_6_0, Hback_6_1, Hback_6_2, Hback_6_3⟩ := Hback_6
  refine zw_if (fun c2 => ?_) (fun c2 => ?_)
  · refine zw_zg32 14 (by decide) (by (try dsimp only); ((try clear hback_6); first | lia | grind [zu_at, zu_atL, zvn])) ?_
    refine zw_if (fun c3 => ?_) (fun c3 => ?_)
    · refine zw_if (fun c4 => ?_) (fun c4 => ?_)
      · refine zw_some ?_
        first | exact True.intro | ((try dsimp only); (repeat' apply And.intro) <;> first | with_reducible assumption | ((try clear hback_6); first | lia | grind [zu_at, zu_atL, zvn]))
      refine zw_some ?_
      first | exact True.intro | ((try dsimp only); (repeat' apply And.intro) <;> first | with_reducible assumption | ((try clear hback_6); first | lia | grind [zu_at, zu_atL, zvn]))
    refine zw_some ?_
    first | exact True.intro | ((try dsimp only); (repeat' apply And.intro) <;> first | with_reducible assumption | ((try clear hback_6); first | lia | grind [zu_at, zu_atL, zvn]))
  refine zw_zg32 28 (by decide) (by (try dsimp only); ((try clear hback_6); first | lia | grind [zu_at, zu_atL, zvn])) ?_
  refine zw_zb0 (sf_X12_isGreatPart (f2 s_6_0.toNatClampNeg) s_6_3 (by first | with_reducible assumption | exact ⟨by with_reducible assumption, by with_reducible assumption⟩ | ((try clear hback_6); first | lia | grind [zu_at, zu_atL, zvn])) (by first | with_reducible assumption | exact ⟨by with_reducible assumption, by with_reducible assumption⟩ | ((try clear hback_6); first | lia | grind [zu_at, zu_atL, zvn]))) (fun o_12 ho_12 => ?_)
  obtain ⟨ho_12_0, ho_12_1, ho_12_2, ho_12_3, ho_12_4, ho_12_5⟩ := ho_12
  refine zw_zj (fun s_16 => 0 ≤ s_16 ∧ s_16 ≤ 1 ∧ o_12 ≤ s_16) (fun s_16 Hj_16 => ?_) (fun j_16 hj_16 => ?_)
  · obtain ⟨Hj_16_0, Hj_16_1, Hj_16_2⟩ := Hj_16
    refine zw_zg32 14 (by decide) (by (try dsimp only); ((try clear hback_6); (try clear hj_16); first | lia | grind [zu_at, zu_atL, zvn])) ?_
    refine zw_zn (fun x_18 ex_18 => ?_)
    refine zw_if (fun c5 => ?_) (fun c5 => ?_)
    · refine zw_zb0 (sf_X12_laysRange s_6_0 (-1) w0_34 f5 f2 f4 s_6_1 f7 f8 s_6_2 (by first | with_reducible assumption | exact ⟨by with_reducible assumption, by with_reducible assumption⟩ | ((try clear hback_6); (try clear hj_16); first | lia | grind [zu_at, zu_atL, zvn])) (by first | with_reducible assumption | exact ⟨by with_reducible assumption, by with_reducible assumption⟩ | ((try clear hback_6); (try clear hj_16); first | lia | grind [zu_at, zu_atL, zvn])) (by first | with_reducible assumption | exact ⟨by with_reducible assumption, by with_reducible assumption⟩ | ((try clear hback_6); (try clear hj_16); first | lia | grind [zu_at, zu_atL, zvn]))) (fun o_20 ho_20 => ?_)
      obtain ⟨o_20_0, o_20_1⟩ := o_20
      try dsimp only at ho_20
      refine zw_zb0 (sf_X12_mostOf s_6_0 o_20_0 o_20_1 (by first | with_reducible assumption | exact ⟨by with_reducible assumption, by with_reducible assumption⟩ | ((try clear hback_6); (try clear hj_16); first | lia | grind [zu_at, zu_atL, zvn]))) (fun o_24 ho_24 => ?_)
      refine zw_ifc (lg_cmp_le _ _) (fun c6 => ?_) (fun c6 => ?_)
      · refine zw_zn1 ?_
        exact hback_6 _ (by (try dsimp only); (repeat' apply And.intro) <;> first | with_reducible assumption | ((try clear hback_6); (try clear hj_16); first | lia | grind [zu_at, zu_atL, zvn])) (by (try dsimp only); ((try clear hback_6); (try clear hj_16); first | lia | grind [zu_at, zu_atL, zvn])) (by (try dsimp only); ((try clear hback_6); (try clear hj_16); first | lia | grind [zu_at, zu_atL, zvn]))
      refine zw_zn1 ?_
      exact hback_6 _ (by (try dsimp only); (repeat' apply And.intro) <;> first | with_reducible assumption | ((try clear hback_6); (try clear hj_16); first | lia | grind [zu_at, zu_atL, zvn])) (by (try dsimp only); ((try clear hback_6); (try clear hj_16); first | lia | grind [zu_at, zu_atL, zvn])) (by (try dsimp only); ((try clear hback_6); (try clear hj_16); first | lia | grind [zu_at, zu_atL, zvn]))
    exact hback_6 _ (by (try dsimp only); (repeat' apply And.intro) <;> first | with_reducible assumption | ((try clear hback_6); (try clear hj_16); first | lia | grind [zu_at, zu_atL, zvn])) (by (try dsimp only); ((try clear hback_6); (try clear hj_16); first | lia | grind [zu_at, zu_atL, zvn])) (by (try dsimp only); ((try clear hback_6); (try clear hj_16); first | lia | grind [zu_at, zu_atL, zvn]))
  refine zw_zj (fun _ => True) (fun s_31 Hj_31 => ?_) (fun j_31 hj_31 => ?_)
  · exact hj_16 _ (by first | exact True.intro | ((try dsimp only); (repeat' apply And.intro) <;> first | with_reducible assumption | ((try clear hback_6); (try clear hj_16); (try clear hj_31); first | lia | grind [zu_at, zu_atL, zvn])))
  refine zw_if (fun c7 => ?_) (fun c7 => ?_)
  · refine zw_zb0 (sf_X12_isGreatPart (f4 s_6_0.toNatClampNeg) s_6_3 (by first | with_reducible assumption | exact ⟨by with_reducible assumption, by with_reducible assumption⟩ | ((try clear hback_6); (try clear hj_16); (try clear hj_31); first | lia | grind [zu_at, zu_atL, zvn])) (by first | with_reducible assumption | exact ⟨by with_reducible assumption, by with_reducible assumption⟩ | ((try clear hback_6); (try clear hj_16); (try clear hj_31); first | lia | grind [zu_at, zu_atL, zvn]))) (fun o_33 ho_33 => ?_)
    obtain ⟨ho_33_0, ho_33_1, ho_33_2, ho_33_3, ho_33_4, ho_33_5⟩ := ho_33
    refine zw_if (fun c8 => ?_) (fun c8 => ?_)
    · exact hj_16 _ (by first | exact True.intro | ((try dsimp only); (repeat' apply And.intro) <;> first | with_reducible assumption | ((try clear hback_6); (try clear hj_16); (try clear hj_31); first | lia | grind [zu_at, zu_atL, zvn])))
    exact hj_31 _ (by first | exact True.intro | ((try dsimp only); (repeat' apply And.intro) <;> first | with_reducible assumption | ((try clear hback_6); (try clear hj_16); (try clear hj_31); first | lia | grind [zu_at, zu_atL, zvn])))
  exact hj_31 _ (by first | exact True.intro | ((try dsimp only); (repeat' apply And.intro) <;> first | with_reducible assumption | ((try clear hback_6); (try clear hj_16); (try clear hj_31); first | lia | grind [zu_at, zu_atL, zvn])))
