set_option maxHeartbeats 4000000 in
theorem sf_J9_floorDiv_f86c9 (j0 : Int64) (j1 : Int64) (hx_0 : ¬ j1 = 0) : zw (fn_J9_floorDiv_f86c9 j0 j1) (fun r => True) := by
  unfold fn_J9_floorDiv_f86c9
  refine zw_zd (by grind [zu_at, zu_atL, zvn]) ?_
  refine zw_ifc (lg_cmp_ge _ _) (fun c1 => ?_) (fun c1 => ?_)
  · refine zw_some ?_
    first | trivial | ((try dsimp only); (repeat' apply And.intro) <;> first | assumption | grind [zu_at, zu_atL, zvn])
  refine zw_ifc (lg_cmp_eq _ _) (fun c2 => ?_) (fun c2 => ?_)
  · refine zw_some ?_
    first | trivial | ((try dsimp only); (repeat' apply And.intro) <;> first | assumption | grind [zu_at, zu_atL, zvn])
  refine zw_some ?_
  first | trivial | ((try dsimp only); (repeat' apply And.intro) <;> first | assumption | grind [zu_at, zu_atL, zvn])
set_option maxHeartbeats 4000000 in
theorem sf_X2_fillFree (p2 : Int32) (v0_0 : Int32) (f1 : Nat → Int32) (f2 : Nat → Int32) (h_v0_0 : 0 ≤ v0_0 ∧ v0_0 ≤ 14) : zw (fn_X2_fillFree p2 v0_0 f1 f2) (fun r => True) := by
  unfold fn_X2_fillFree
  refine zw_zl32 (fun s_1 => 0 ≤ s_1.1 ∧ s_1.1 ≤ 14 ∧ s_1.1 ≤ v0_0) (fun s_1 => 14 - s_1.1) (by (try dsimp only); (repeat' apply And.intro) <;> first | assumption | grind [zu_at, zu_atL, zvn]) (by (try dsimp only); grind [zu_at, zu_atL, zvn]) (fun s_1 back_1 Hback_1 hback_1 => ?_)
  obtain ⟨Hback_1_0, Hback_1_1, Hback_1_2⟩ := Hback_1
  refine zw_if (fun c1 => ?_) (fun c1 => ?_)
  · refine zw_some ?_
    first | trivial | ((try dsimp only); (repeat' apply And.intro) <;> first | assumption | grind [zu_at, zu_atL, zvn])
  refine zw_if (fun c2 => ?_) (fun c2 => ?_)
  · refine zw_some ?_
    first | trivial | ((try dsimp only); (repeat' apply And.intro) <;> first | assumption | grind [zu_at, zu_atL, zvn])
  refine zw_zg32 14 (by decide) (by grind [zu_at, zu_atL, zvn]) ?_
  refine zw_if (fun c3 => ?_) (fun c3 => ?_)
  · exact hback_1 _ (by (try dsimp only); (repeat' apply And.intro) <;> first | assumption | grind [zu_at, zu_atL, zvn]) (by (try dsimp only); grind [zu_at, zu_atL, zvn]) (by (try dsimp only); grind [zu_at, zu_atL, zvn])
  exact hback_1 _ (by (try dsimp only); (repeat' apply And.intro) <;> first | assumption | grind [zu_at, zu_atL, zvn]) (by (try dsimp only); grind [zu_at, zu_atL, zvn]) (by (try dsimp only); grind [zu_at, zu_atL, zvn])
set_option maxHeartbeats 4000000 in
theorem sf_X4_madeOf (p1 : Int32) (p2 : Int32) (v0_0 : Int32) (f1 : Nat → Int32) (h_v0_0 : 0 ≤ v0_0 ∧ v0_0 ≤ 14) : zw (fn_X4_madeOf p1 p2 v0_0 f1) (fun r => (¬ r = (-1) → 0 ≤ p1 ∧ 0 ≤ p2 ∧ p1 ≤ 13 ∧ p2 ≤ 1 ∧ 1 ≤ v0_0 ∧ p1 < v0_0)) := by
  unfold fn_X4_madeOf
  refine zw_if (fun c1 => ?_) (fun c1 => ?_)
  · refine zw_some ?_
    first | trivial | ((try dsimp only); (repeat' apply And.intro) <;> first | assumption | grind [zu_at, zu_atL, zvn])
  refine zw_if (fun c2 => ?_) (fun c2 => ?_)
  · refine zw_some ?_
    first | trivial | ((try dsimp only); (repeat' apply And.intro) <;> first | assumption | grind [zu_at, zu_atL, zvn])
  refine zw_if (fun c3 => ?_) (fun c3 => ?_)
  · refine zw_some ?_
    first | trivial | ((try dsimp only); (repeat' apply And.intro) <;> first | assumption | grind [zu_at, zu_atL, zvn])
  refine zw_if (fun c4 => ?_) (fun c4 => ?_)
  · refine zw_some ?_
    first | trivial | ((try dsimp only); (repeat' apply And.intro) <;> first | assumption | grind [zu_at, zu_atL, zvn])
  refine zw_zg32 28 (by decide) (by grind [zu_at, zu_atL, zvn]) ?_
  refine zw_some ?_
  first | trivial | ((try dsimp only); (repeat' apply And.intro) <;> first | assumption | grind [zu_at, zu_atL, zvn])
set_option maxHeartbeats 4000000 in
theorem sf_X4_amountOf (p1 : Int32) (p2 : Int32) (v0_0 : Int32) (f1 : Nat → Int32) (h_v0_0 : 0 ≤ v0_0 ∧ v0_0 ≤ 14) : zw (fn_X4_amountOf p1 p2 v0_0 f1) (fun r => True) := by
  unfold fn_X4_amountOf
  refine zw_if (fun c1 => ?_) (fun c1 => ?_)
  · refine zw_some ?_
    first | trivial | ((try dsimp only); (repeat' apply And.intro) <;> first | assumption | grind [zu_at, zu_atL, zvn])
  refine zw_if (fun c2 => ?_) (fun c2 => ?_)
  · refine zw_some ?_
    first | trivial | ((try dsimp only); (repeat' apply And.intro) <;> first | assumption | grind [zu_at, zu_atL, zvn])
  refine zw_if (fun c3 => ?_) (fun c3 => ?_)
  · refine zw_some ?_
    first | trivial | ((try dsimp only); (repeat' apply And.intro) <;> first | assumption | grind [zu_at, zu_atL, zvn])
  refine zw_if (fun c4 => ?_) (fun c4 => ?_)
  · refine zw_some ?_
    first | trivial | ((try dsimp only); (repeat' apply And.intro) <;> first | assumption | grind [zu_at, zu_atL, zvn])
  refine zw_zg32 28 (by decide) (by grind [zu_at, zu_atL, zvn]) ?_
  refine zw_some ?_
  first | trivial | ((try dsimp only); (repeat' apply And.intro) <;> first | assumption | grind [zu_at, zu_atL, zvn])
set_option maxHeartbeats 4000000 in
theorem sf_X4_countAnswers (p1 : Int32) (v0_0 : Int32) (f1 : Nat → Int32) (h_v0_0 : 0 ≤ v0_0 ∧ v0_0 ≤ 14) : zw (fn_X4_countAnswers p1 v0_0 f1) (fun r => 0 ≤ r ∧ r ≤ 14 ∧ r ≤ v0_0) := by
  unfold fn_X4_countAnswers
  refine zw_zl32 (fun s_1 => 0 ≤ s_1.1 ∧ 0 ≤ s_1.2 ∧ s_1.1 ≤ 14 ∧ s_1.2 ≤ 14 ∧ s_1.1 ≤ v0_0 ∧ s_1.2 ≤ v0_0 ∧ s_1.1 ≤ s_1.2) (fun s_1 => 14 - s_1.2) (by (try dsimp only); (repeat' apply And.intro) <;> first | assumption | grind [zu_at, zu_atL, zvn]) (by (try dsimp only); grind [zu_at, zu_atL, zvn]) (fun s_1 back_1 Hback_1 hback_1 => ?_)
  obtain ⟨Hback_1_0, Hback_1_1, Hback_1_2, Hback_1_3, Hback_1_4, Hback_1_5, Hback_1_6⟩ := Hback_1
  refine zw_if (fun c1 => ?_) (fun c1 => ?_)
  · refine zw_some ?_
    first | trivial | ((try dsimp only); (repeat' apply And.intro) <;> first | assumption | grind [zu_at, zu_atL, zvn])
  refine zw_if (fun c2 => ?_) (fun c2 => ?_)
  · refine zw_some ?_
    first | trivial | ((try dsimp only); (repeat' apply And.intro) <;> first | assumption | grind [zu_at, zu_atL, zvn])
  refine zw_zg32 14 (by decide) (by grind [zu_at, zu_atL, zvn]) ?_
  refine zw_if (fun c3 => ?_) (fun c3 => ?_)
  · exact hback_1 _ (by (try dsimp only); (repeat' apply And.intro) <;> first | assumption | grind [zu_at, zu_atL, zvn]) (by (try dsimp only); grind [zu_at, zu_atL, zvn]) (by (try dsimp only); grind [zu_at, zu_atL, zvn])
  exact hback_1 _ (by (try dsimp only); (repeat' apply And.intro) <;> first | assumption | grind [zu_at, zu_atL, zvn]) (by (try dsimp only); grind [zu_at, zu_atL, zvn]) (by (try dsimp only); grind [zu_at, zu_atL, zvn])
set_option maxHeartbeats 4000000 in
theorem sf_X2_earlierGroup (p2 : Int32) (f2 : Nat → Int32) (f3 : Nat → Int32) (h_p2 : 0 ≤ p2 ∧ p2 ≤ 13) (h_f3 : (∀ i : Nat, 0 ≤ f3 i ∧ f3 i ≤ 13)) : zw (fn_X2_earlierGroup p2 f2 f3) (fun r => (-1) ≤ r ∧ r ≤ 13 ∧ (r = (-1) → r < p2) ∧ (¬ r = (-1) → 1 ≤ p2 ∧ 0 ≤ r)) := by
  unfold fn_X2_earlierGroup
  refine zw_zl32 (fun s_1 => 0 ≤ s_1 ∧ s_1 ≤ 13 ∧ s_1 ≤ p2) (fun s_1 => 13 - s_1) (by (try dsimp only); (repeat' apply And.intro) <;> first | assumption | grind [zu_at, zu_atL, zvn]) (by (try dsimp only); grind [zu_at, zu_atL, zvn]) (fun s_1 back_1 Hback_1 hback_1 => ?_)
  obtain ⟨Hback_1_0, Hback_1_1, Hback_1_2⟩ := Hback_1
  refine zw_if (fun c1 => ?_) (fun c1 => ?_)
  · refine zw_some ?_
    first | trivial | ((try dsimp only); (repeat' apply And.intro) <;> first | assumption | grind [zu_at, zu_atL, zvn])
  refine zw_zg32 14 (by decide) (by grind [zu_at, zu_atL, zvn]) ?_
  refine zw_zg32 14 (by decide) (by grind [zu_at, zu_atL, zvn]) ?_
  refine zw_if (fun c2 => ?_) (fun c2 => ?_)
  · refine zw_some ?_
    first | trivial | ((try dsimp only); (repeat' apply And.intro) <;> first | assumption | grind [zu_at, zu_atL, zvn])
  exact hback_1 _ (by (try dsimp only); (repeat' apply And.intro) <;> first | assumption | grind [zu_at, zu_atL, zvn]) (by (try dsimp only); grind [zu_at, zu_atL, zvn]) (by (try dsimp only); grind [zu_at, zu_atL, zvn])
set_option maxHeartbeats 4000000 in
theorem sf_X2_fix (p1 : Int32) (p2 : Int32) (v0_2 : Int32) (f1 : Nat → Int32) (h_p1 : 0 ≤ p1 ∧ p1 ≤ 13) (h_v0_2 : 0 ≤ v0_2 ∧ v0_2 ≤ 1) : zw (fn_X2_fix p1 p2 v0_2 f1) (fun r => 0 ≤ r.1 ∧ r.1 ≤ 1 ∧ v0_2 ≤ r.1) := by
  unfold fn_X2_fix
  refine zw_if (fun c1 => ?_) (fun c1 => ?_)
  · refine zw_some ?_
    first | trivial | ((try dsimp only); (repeat' apply And.intro) <;> first | assumption | grind [zu_at, zu_atL, zvn])
  refine zw_zg32 14 (by decide) (by grind [zu_at, zu_atL, zvn]) ?_
  refine zw_if (fun c2 => ?_) (fun c2 => ?_)
  · refine zw_some ?_
    first | trivial | ((try dsimp only); (repeat' apply And.intro) <;> first | assumption | grind [zu_at, zu_atL, zvn])
  refine zw_zj (fun s_4 => 0 ≤ s_4 ∧ s_4 ≤ 1 ∧ v0_2 ≤ s_4) (fun s_4 Hj_4 => ?_) (fun j_4 hj_4 => ?_)
  · obtain ⟨Hj_4_0, Hj_4_1, Hj_4_2⟩ := Hj_4
    refine zw_zt (by grind [zu_at, zu_atL, zvn]) ?_
    refine zw_zg32 14 (by decide) (by grind [zu_at, zu_atL, zvn]) ?_
    refine zw_if (fun c3 => ?_) (fun c3 => ?_)
    · refine zw_some ?_
      first | trivial | ((try dsimp only); (repeat' apply And.intro) <;> first | assumption | grind [zu_at, zu_atL, zvn])
    refine zw_some ?_
    first | trivial | ((try dsimp only); (repeat' apply And.intro) <;> first | assumption | grind [zu_at, zu_atL, zvn])
  refine zw_zj (fun _ => True) (fun s_8 Hj_8 => ?_) (fun j_8 hj_8 => ?_)
  · exact hj_4 _ (by first | trivial | ((try dsimp only); (repeat' apply And.intro) <;> first | assumption | grind [zu_at, zu_atL, zvn]))
  refine zw_if (fun c4 => ?_) (fun c4 => ?_)
  · refine zw_if (fun c5 => ?_) (fun c5 => ?_)
    · exact hj_4 _ (by first | trivial | ((try dsimp only); (repeat' apply And.intro) <;> first | assumption | grind [zu_at, zu_atL, zvn]))
    exact hj_8 _ (by first | trivial | ((try dsimp only); (repeat' apply And.intro) <;> first | assumption | grind [zu_at, zu_atL, zvn]))
  exact hj_8 _ (by first | trivial | ((try dsimp only); (repeat' apply And.intro) <;> first | assumption | grind [zu_at, zu_atL, zvn]))
set_option maxHeartbeats 4000000 in
theorem sf_X2_gather (v1_0 : Int32) (f2 : Nat → Int32) (f3 : Nat → Int32) (f4 : Nat → Int32) (f5 : Nat → Int32) (f6 : Nat → Int32) (h_v1_0 : 0 ≤ v1_0 ∧ v1_0 ≤ 14) (h_f3 : (∀ i : Nat, 0 ≤ f3 i ∧ f3 i ≤ 13)) : zw (fn_X2_gather v1_0 f2 f3 f4 f5 f6) (fun r => 0 ≤ r.1 ∧ r.1 ≤ 14 ∧ 0 ≤ r.2.1 ∧ r.2.1 ≤ 14 ∧ 0 ≤ r.2.2.1 ∧ r.2.2.1 ≤ 1 ∧ (∀ i : Nat, 0 ≤ r.2.2.2.1 i ∧ r.2.2.2.1 i ≤ 13) ∧ r.2.1 ≤ r.1 ∧ r.1 ≤ v1_0 ∧ r.2.2.1 ≤ v1_0) := by
  unfold fn_X2_gather
  refine zw_zl32 (fun s_1 => (∀ i : Nat, 0 ≤ s_1.2.2.2.1 i ∧ s_1.2.2.2.1 i ≤ 13) ∧ 0 ≤ s_1.1 ∧ s_1.1 ≤ 14 ∧ 0 ≤ s_1.2.1 ∧ s_1.2.1 ≤ 14 ∧ 0 ≤ s_1.2.2.1 ∧ s_1.2.2.1 ≤ 1 ∧ s_1.1 ≤ v1_0 ∧ s_1.2.1 ≤ v1_0 ∧ s_1.2.1 ≤ s_1.1 ∧ s_1.2.2.1 ≤ v1_0 ∧ s_1.2.2.1 ≤ s_1.1) (fun s_1 => 14 - s_1.1) (by (try dsimp only); (repeat' apply And.intro) <;> first | assumption | grind [zu_at, zu_atL, zvn]) (by (try dsimp only); grind [zu_at, zu_atL, zvn]) (fun s_1 back_1 Hback_1 hback_1 => ?_)
  obtain ⟨Hback_1_0, Hback_1_1, Hback_1_2, Hback_1_3, Hback_1_4, Hback_1_5, Hback_1_6, Hback_1_7, Hback_1_8, Hback_1_9, Hback_1_10, Hback_1_11⟩ := Hback_1
  refine zw_if (fun c1 => ?_) (fun c1 => ?_)
  · refine zw_zl32 (fun s_3 => 0 ≤ s_3.1 ∧ 0 ≤ s_3.2 ∧ s_3.1 ≤ 14 ∧ s_3.2 ≤ 14 ∧ s_3.1 ≤ v1_0 ∧ s_3.2 ≤ v1_0 ∧ s_3.2 ≤ s_3.1 ∧ s_3.1 ≤ s_1.2.1) (fun s_3 => 14 - s_3.1) (by (try dsimp only); (repeat' apply And.intro) <;> first | assumption | grind [zu_at, zu_atL, zvn]) (by (try dsimp only); grind [zu_at, zu_atL, zvn]) (fun s_3 back_3 Hback_3 hback_3 => ?_)
    obtain ⟨Hback_3_0, Hback_3_1, Hback_3_2, Hback_3_3, Hback_3_4, Hback_3_5, Hback_3_6, Hback_3_7⟩ := Hback_3
    refine zw_if (fun c2 => ?_) (fun c2 => ?_)
    · refine zw_some ?_
      first | trivial | ((try dsimp only); (repeat' apply And.intro) <;> first | assumption | grind [zu_at, zu_atL, zvn])
    refine zw_zg32 14 (by decide) (by grind [zu_at, zu_atL, zvn]) ?_
    refine zw_if (fun c3 => ?_) (fun c3 => ?_)
    · exact hback_3 _ (by (try dsimp only); (repeat' apply And.intro) <;> first | assumption | grind [zu_at, zu_atL, zvn]) (by (try dsimp only); grind [zu_at, zu_atL, zvn]) (by (try dsimp only); grind [zu_at, zu_atL, zvn])
    exact hback_3 _ (by (try dsimp only); (repeat' apply And.intro) <;> first | assumption | grind [zu_at, zu_atL, zvn]) (by (try dsimp only); grind [zu_at, zu_atL, zvn]) (by (try dsimp only); grind [zu_at, zu_atL, zvn])
  refine zw_zb0 (sf_X2_earlierGroup s_1.1 f2 s_1.2.2.2.1 (by first | assumption | exact ⟨by assumption, by assumption⟩ | grind [zu_at, zu_atL, zvn]) (by first | assumption | exact ⟨by assumption, by assumption⟩ | grind [zu_at, zu_atL, zvn])) (fun o_7 ho_7 => ?_)
  obtain ⟨ho_7_0, ho_7_1, ho_7_2, ho_7_3⟩ := ho_7
  refine zw_zg32 14 (by decide) (by grind [zu_at, zu_atL, zvn]) ?_
  refine zw_zj (fun s_12 => (∀ i : Nat, 0 ≤ s_12.2.1 i ∧ s_12.2.1 i ≤ 13) ∧ 0 ≤ s_12.1 ∧ s_12.1 ≤ 13 ∧ s_1.2.1 ≤ s_12.1 ∧ s_12.1 ≤ s_1.2.1) (fun s_12 Hj_12 => ?_) (fun j_12 hj_12 => ?_)
  · obtain ⟨Hj_12_0, Hj_12_1, Hj_12_2, Hj_12_3, Hj_12_4⟩ := Hj_12
    refine zw_zg32 14 (by decide) (by grind [zu_at, zu_atL, zvn]) ?_
    refine zw_zb0 (sf_X2_fix (s_12.2.1 s_1.1.toNatClampNeg) (f6 s_1.1.toNatClampNeg) s_1.2.2.1 s_12.2.2.1 (by first | assumption | exact ⟨by assumption, by assumption⟩ | grind [zu_at, zu_atL, zvn]) (by first | assumption | exact ⟨by assumption, by assumption⟩ | grind [zu_at, zu_atL, zvn])) (fun o_14 ho_14 => ?_)
    obtain ⟨ho_14_0, ho_14_1, ho_14_2⟩ := ho_14
    exact hback_1 _ (by (try dsimp only); (repeat' apply And.intro) <;> first | assumption | grind [zu_at, zu_atL, zvn]) (by (try dsimp only); grind [zu_at, zu_atL, zvn]) (by (try dsimp only); grind [zu_at, zu_atL, zvn])
  refine zw_if (fun c4 => ?_) (fun c4 => ?_)
  · refine zw_zn1 ?_
    refine zw_zg32 14 (by decide) (by grind [zu_at, zu_atL, zvn]) ?_
    exact hj_12 _ (by first | trivial | ((try dsimp only); (repeat' apply And.intro) <;> first | assumption | grind [zu_at, zu_atL, zvn]))
  exact hj_12 _ (by first | trivial | ((try dsimp only); (repeat' apply And.intro) <;> first | assumption | grind [zu_at, zu_atL, zvn]))
set_option maxHeartbeats 4000000 in
theorem sf_X2_isFree (p1 : Int32) (v0_0 : Int32) (f1 : Nat → Int32) (h_v0_0 : 0 ≤ v0_0 ∧ v0_0 ≤ 14) : zw (fn_X2_isFree p1 v0_0 f1) (fun r => 0 ≤ r ∧ r ≤ 1 ∧ r ≤ v0_0 ∧ (¬ r = 0 → 0 ≤ p1 ∧ 1 ≤ r ∧ p1 ≤ 13 ∧ p1 < v0_0 ∧ (f1 p1.toNatClampNeg) ≤ (-1) ∧ (-1) ≤ (f1 p1.toNatClampNeg)) ∧ (r = 1 → 0 ≤ p1 ∧ p1 ≤ 13 ∧ 1 ≤ v0_0 ∧ p1 < v0_0 ∧ (f1 p1.toNatClampNeg) ≤ (-1) ∧ (-1) ≤ (f1 p1.toNatClampNeg) ∧ (f1 p1.toNatClampNeg) + 2 ≤ r) ∧ (¬ r = 1 → r ≤ 0)) := by
  unfold fn_X2_isFree
  refine zw_if (fun c1 => ?_) (fun c1 => ?_)
  · refine zw_some ?_
    first | trivial | ((try dsimp only); (repeat' apply And.intro) <;> first | assumption | grind [zu_at, zu_atL, zvn])
  refine zw_if (fun c2 => ?_) (fun c2 => ?_)
  · refine zw_some ?_
    first | trivial | ((try dsimp only); (repeat' apply And.intro) <;> first | assumption | grind [zu_at, zu_atL, zvn])
  refine zw_zg32 14 (by decide) (by grind [zu_at, zu_atL, zvn]) ?_
  refine zw_if (fun c3 => ?_) (fun c3 => ?_)
  · refine zw_some ?_
    first | trivial | ((try dsimp only); (repeat' apply And.intro) <;> first | assumption | grind [zu_at, zu_atL, zvn])
  refine zw_some ?_
  first | trivial | ((try dsimp only); (repeat' apply And.intro) <;> first | assumption | grind [zu_at, zu_atL, zvn])
set_option maxHeartbeats 4000000 in
theorem sf_X2_leaderOf (p1 : Int32) (v0_0 : Int32) (f1 : Nat → Int32) (h_v0_0 : 0 ≤ v0_0 ∧ v0_0 ≤ 14) : zw (fn_X2_leaderOf p1 v0_0 f1) (fun r => (¬ r = (-1) → 0 ≤ p1 ∧ p1 ≤ 13 ∧ 1 ≤ v0_0 ∧ p1 < v0_0 ∧ (f1 p1.toNatClampNeg) ≤ r ∧ r ≤ (f1 p1.toNatClampNeg))) := by
  unfold fn_X2_leaderOf
  refine zw_if (fun c1 => ?_) (fun c1 => ?_)
  · refine zw_some ?_
    first | trivial | ((try dsimp only); (repeat' apply And.intro) <;> first | assumption | grind [zu_at, zu_atL, zvn])
  refine zw_if (fun c2 => ?_) (fun c2 => ?_)
  · refine zw_some ?_
    first | trivial | ((try dsimp only); (repeat' apply And.intro) <;> first | assumption | grind [zu_at, zu_atL, zvn])
  refine zw_zg32 14 (by decide) (by grind [zu_at, zu_atL, zvn]) ?_
  refine zw_some ?_
  first | trivial | ((try dsimp only); (repeat' apply And.intro) <;> first | assumption | grind [zu_at, zu_atL, zvn])
set_option maxHeartbeats 4000000 in
theorem sf_X4_prepare (p1 : Int32) (p2 : Int32) (p3 : Int32) (v0_0 : Int32) (f1 : Nat → Int32) (f2 : Nat → Int32) (h_v0_0 : 0 ≤ v0_0 ∧ v0_0 ≤ 14) : zw (fn_X4_prepare p1 p2 p3 v0_0 f1 f2) (fun r => True) := by
  unfold fn_X4_prepare
  refine zw_if (fun c1 => ?_) (fun c1 => ?_)
  · refine zw_some ?_
    first | trivial | ((try dsimp only); (repeat' apply And.intro) <;> first | assumption | grind [zu_at, zu_atL, zvn])
  refine zw_zj (fun _ => 0 ≤ p1 ∧ p1 ≤ 1) (fun s_2 Hj_2 => ?_) (fun j_2 hj_2 => ?_)
  · obtain ⟨Hj_2_0, Hj_2_1⟩ := Hj_2
    refine zw_zg32 28 (by decide) (by grind [zu_at, zu_atL, zvn]) ?_
    refine zw_some ?_
    first | trivial | ((try dsimp only); (repeat' apply And.intro) <;> first | assumption | grind [zu_at, zu_atL, zvn])
  refine zw_if (fun c2 => ?_) (fun c2 => ?_)
  · exact hj_2 _ (by first | trivial | ((try dsimp only); (repeat' apply And.intro) <;> first | assumption | grind [zu_at, zu_atL, zvn]))
  refine zw_if (fun c3 => ?_) (fun c3 => ?_)
  · exact hj_2 _ (by first | trivial | ((try dsimp only); (repeat' apply And.intro) <;> first | assumption | grind [zu_at, zu_atL, zvn]))
  refine zw_some ?_
  first | trivial | ((try dsimp only); (repeat' apply And.intro) <;> first | assumption | grind [zu_at, zu_atL, zvn])
set_option maxHeartbeats 4000000 in
theorem sf_X4_letsOf (p1 : Int32) (v0_0 : Int32) (f1 : Nat → Int32) (f2 : Nat → Int32) (h_p1 : 0 ≤ p1 ∧ p1 ≤ 1) (h_v0_0 : 0 ≤ v0_0 ∧ v0_0 ≤ 13) : zw (fn_X4_letsOf p1 v0_0 f1 f2) (fun r => (¬ r = 0 → 1 ≤ v0_0)) := by
  unfold fn_X4_letsOf
  refine zw_zg32 28 (by decide) (by grind [zu_at, zu_atL, zvn]) ?_
  refine zw_if (fun c1 => ?_) (fun c1 => ?_)
  · refine zw_some ?_
    first | trivial | ((try dsimp only); (repeat' apply And.intro) <;> first | assumption | grind [zu_at, zu_atL, zvn])
  refine zw_if (fun c2 => ?_) (fun c2 => ?_)
  · refine zw_some ?_
    first | trivial | ((try dsimp only); (repeat' apply And.intro) <;> first | assumption | grind [zu_at, zu_atL, zvn])
  refine zw_zg32 14 (by decide) (by grind [zu_at, zu_atL, zvn]) ?_
  refine zw_some ?_
  first | trivial | ((try dsimp only); (repeat' apply And.intro) <;> first | assumption | grind [zu_at, zu_atL, zvn])
set_option maxHeartbeats 4000000 in
theorem sf_X4_add (p1 : Int32) (p2 : Int32) (v0_0 : Int32) (v0_1 : Int32) (f1 : Nat → Int32) (f2 : Nat → Int32) (f3 : Nat → Int32) (f4 : Nat → Int32) (f5 : Nat → Int32) (f6 : Nat → Int32) (f7 : Nat → Int32) (h_v0_0 : 0 ≤ v0_0 ∧ v0_0 ≤ 14) : zw (fn_X4_add p1 p2 v0_0 v0_1 f1 f2 f3 f4 f5 f6 f7) (fun r => 0 ≤ r.1 ∧ r.1 ≤ 14 ∧ 1 ≤ r.1 ∧ v0_0 ≤ r.1 ∧ r.1 ≤ v0_0 + 1 ∧ (¬ r.1 = 14 → v0_0 ≤ 13 ∧ v0_0 < r.1)) := by
  unfold fn_X4_add
  refine zw_if (fun c1 => ?_) (fun c1 => ?_)
  · refine zw_zg32 14 (by decide) (by grind [zu_at, zu_atL, zvn]) ?_
    refine zw_zj (fun s_3 => True) (fun s_3 Hj_3 => ?_) (fun j_3 hj_3 => ?_)
    · refine zw_zg32 14 (by decide) (by grind [zu_at, zu_atL, zvn]) ?_
      refine zw_zj (fun s_5 => 0 ≤ s_5 ∧ s_5 ≤ 1) (fun s_5 Hj_5 => ?_) (fun j_5 hj_5 => ?_)
      · obtain ⟨Hj_5_0, Hj_5_1⟩ := Hj_5
        refine zw_some ?_
        first | trivial | ((try dsimp only); (repeat' apply And.intro) <;> first | assumption | grind [zu_at, zu_atL, zvn])
      refine zw_if (fun c2 => ?_) (fun c2 => ?_)
      · exact hj_5 _ (by first | trivial | ((try dsimp only); (repeat' apply And.intro) <;> first | assumption | grind [zu_at, zu_atL, zvn]))
      exact hj_5 _ (by first | trivial | ((try dsimp only); (repeat' apply And.intro) <;> first | assumption | grind [zu_at, zu_atL, zvn]))
    refine zw_if (fun c3 => ?_) (fun c3 => ?_)
    · exact hj_3 _ (by first | trivial | ((try dsimp only); (repeat' apply And.intro) <;> first | assumption | grind [zu_at, zu_atL, zvn]))
    refine zw_zb0 (sf_X4_letsOf 0 v0_0 f6 f7 (by first | assumption | exact ⟨by assumption, by assumption⟩ | grind [zu_at, zu_atL, zvn]) (by first | assumption | exact ⟨by assumption, by assumption⟩ | grind [zu_at, zu_atL, zvn])) (fun o_8 ho_8 => ?_)
    refine zw_zb0 (sf_X4_letsOf 1 v0_0 f6 f7 (by first | assumption | exact ⟨by assumption, by assumption⟩ | grind [zu_at, zu_atL, zvn]) (by first | assumption | exact ⟨by assumption, by assumption⟩ | grind [zu_at, zu_atL, zvn])) (fun o_12 ho_12 => ?_)
    exact hj_3 _ (by first | trivial | ((try dsimp only); (repeat' apply And.intro) <;> first | assumption | grind [zu_at, zu_atL, zvn]))
  refine zw_some ?_
  first | trivial | ((try dsimp only); (repeat' apply And.intro) <;> first | assumption | grind [zu_at, zu_atL, zvn])
set_option maxHeartbeats 4000000 in
theorem sf_X4_join (p1 : Int32) (p2 : Int32) (v0_0 : Int32) (f1 : Nat → Int32) (h_v0_0 : 0 ≤ v0_0 ∧ v0_0 ≤ 14) : zw (fn_X4_join p1 p2 v0_0 f1) (fun r => True) := by
  unfold fn_X4_join
  refine zw_if (fun c1 => ?_) (fun c1 => ?_)
  · refine zw_some ?_
    first | trivial | ((try dsimp only); (repeat' apply And.intro) <;> first | assumption | grind [zu_at, zu_atL, zvn])
  refine zw_if (fun c2 => ?_) (fun c2 => ?_)
  · refine zw_some ?_
    first | trivial | ((try dsimp only); (repeat' apply And.intro) <;> first | assumption | grind [zu_at, zu_atL, zvn])
  refine zw_if (fun c3 => ?_) (fun c3 => ?_)
  · refine zw_some ?_
    first | trivial | ((try dsimp only); (repeat' apply And.intro) <;> first | assumption | grind [zu_at, zu_atL, zvn])
  refine zw_if (fun c4 => ?_) (fun c4 => ?_)
  · refine zw_zg32 14 (by decide) (by grind [zu_at, zu_atL, zvn]) ?_
    refine zw_zl32 (fun s_6 => 0 ≤ s_6.1 ∧ s_6.1 ≤ 14 ∧ s_6.1 ≤ v0_0) (fun s_6 => 14 - s_6.1) (by (try dsimp only); (repeat' apply And.intro) <;> first | assumption | grind [zu_at, zu_atL, zvn]) (by (try dsimp only); grind [zu_at, zu_atL, zvn]) (fun s_6 back_6 Hback_6 hback_6 => ?_)
    obtain ⟨Hback_6_0, Hback_6_1, Hback_6_2⟩ := Hback_6
    refine zw_if (fun c5 => ?_) (fun c5 => ?_)
    · refine zw_some ?_
      first | trivial | ((try dsimp only); (repeat' apply And.intro) <;> first | assumption | grind [zu_at, zu_atL, zvn])
    refine zw_zg32 14 (by decide) (by grind [zu_at, zu_atL, zvn]) ?_
    refine zw_if (fun c6 => ?_) (fun c6 => ?_)
    · refine zw_zg32 14 (by decide) (by grind [zu_at, zu_atL, zvn]) ?_
      exact hback_6 _ (by (try dsimp only); (repeat' apply And.intro) <;> first | assumption | grind [zu_at, zu_atL, zvn]) (by (try dsimp only); grind [zu_at, zu_atL, zvn]) (by (try dsimp only); grind [zu_at, zu_atL, zvn])
    exact hback_6 _ (by (try dsimp only); (repeat' apply And.intro) <;> first | assumption | grind [zu_at, zu_atL, zvn]) (by (try dsimp only); grind [zu_at, zu_atL, zvn]) (by (try dsimp only); grind [zu_at, zu_atL, zvn])
  refine zw_some ?_
  first | trivial | ((try dsimp only); (repeat' apply And.intro) <;> first | assumption | grind [zu_at, zu_atL, zvn])
set_option maxHeartbeats 4000000 in
theorem sf_X4_find (p1 : Int32) (v0_0 : Int32) (f1 : Nat → Int32) (h_v0_0 : 0 ≤ v0_0 ∧ v0_0 ≤ 14) : zw (fn_X4_find p1 v0_0 f1) (fun r => (-1) ≤ r ∧ r ≤ 13 ∧ r < v0_0 ∧ (¬ r = (-1) → 0 ≤ r)) := by
  unfold fn_X4_find
  refine zw_zl32 (fun s_1 => 0 ≤ s_1 ∧ s_1 ≤ 14 ∧ s_1 ≤ v0_0) (fun s_1 => 14 - s_1) (by (try dsimp only); (repeat' apply And.intro) <;> first | assumption | grind [zu_at, zu_atL, zvn]) (by (try dsimp only); grind [zu_at, zu_atL, zvn]) (fun s_1 back_1 Hback_1 hback_1 => ?_)
  obtain ⟨Hback_1_0, Hback_1_1, Hback_1_2⟩ := Hback_1
  refine zw_if (fun c1 => ?_) (fun c1 => ?_)
  · refine zw_some ?_
    first | trivial | ((try dsimp only); (repeat' apply And.intro) <;> first | assumption | grind [zu_at, zu_atL, zvn])
  refine zw_zg32 14 (by decide) (by grind [zu_at, zu_atL, zvn]) ?_
  refine zw_if (fun c2 => ?_) (fun c2 => ?_)
  · refine zw_some ?_
    first | trivial | ((try dsimp only); (repeat' apply And.intro) <;> first | assumption | grind [zu_at, zu_atL, zvn])
  exact hback_1 _ (by (try dsimp only); (repeat' apply And.intro) <;> first | assumption | grind [zu_at, zu_atL, zvn]) (by (try dsimp only); grind [zu_at, zu_atL, zvn]) (by (try dsimp only); grind [zu_at, zu_atL, zvn])
set_option maxHeartbeats 4000000 in
theorem sf_X4_fix (p1 : Int32) (p2 : Int32) (v0_0 : Int32) (f1 : Nat → Int32) (h_v0_0 : 0 ≤ v0_0 ∧ v0_0 ≤ 14) : zw (fn_X4_fix p1 p2 v0_0 f1) (fun r => True) := by
  unfold fn_X4_fix
  refine zw_if (fun c1 => ?_) (fun c1 => ?_)
  · refine zw_some ?_
    first | trivial | ((try dsimp only); (repeat' apply And.intro) <;> first | assumption | grind [zu_at, zu_atL, zvn])
  refine zw_if (fun c2 => ?_) (fun c2 => ?_)
  · refine zw_some ?_
    first | trivial | ((try dsimp only); (repeat' apply And.intro) <;> first | assumption | grind [zu_at, zu_atL, zvn])
  refine zw_zg32 14 (by decide) (by grind [zu_at, zu_atL, zvn]) ?_
  refine zw_some ?_
  first | trivial | ((try dsimp only); (repeat' apply And.intro) <;> first | assumption | grind [zu_at, zu_atL, zvn])
set_option maxHeartbeats 4000000 in
theorem sf_X4_allow (p1 : Int32) (p2 : Int32) (v0_0 : Int32) (f1 : Nat → Int32) (h_v0_0 : 0 ≤ v0_0 ∧ v0_0 ≤ 14) : zw (fn_X4_allow p1 p2 v0_0 f1) (fun r => True) := by
  unfold fn_X4_allow
  refine zw_if (fun c1 => ?_) (fun c1 => ?_)
  · refine zw_some ?_
    first | trivial | ((try dsimp only); (repeat' apply And.intro) <;> first | assumption | grind [zu_at, zu_atL, zvn])
  refine zw_if (fun c2 => ?_) (fun c2 => ?_)
  · refine zw_some ?_
    first | trivial | ((try dsimp only); (repeat' apply And.intro) <;> first | assumption | grind [zu_at, zu_atL, zvn])
  refine zw_zg32 14 (by decide) (by grind [zu_at, zu_atL, zvn]) ?_
  refine zw_some ?_
  first | trivial | ((try dsimp only); (repeat' apply And.intro) <;> first | assumption | grind [zu_at, zu_atL, zvn])
set_option maxHeartbeats 4000000 in
theorem sf_X4_isAmong (p0 : Int32) (p1 : Int32) (p2 : Int32) : zw (fn_X4_isAmong p0 p1 p2) (fun r => 0 ≤ r ∧ r ≤ 1 ∧ (¬ r = 1 → r ≤ 0) ∧ (¬ r = 0 → 1 ≤ r)) := by
  unfold fn_X4_isAmong
  refine zw_if (fun c1 => ?_) (fun c1 => ?_)
  · refine zw_some ?_
    first | trivial | ((try dsimp only); (repeat' apply And.intro) <;> first | assumption | grind [zu_at, zu_atL, zvn])
  refine zw_if (fun c2 => ?_) (fun c2 => ?_)
  · refine zw_some ?_
    first | trivial | ((try dsimp only); (repeat' apply And.intro) <;> first | assumption | grind [zu_at, zu_atL, zvn])
  refine zw_if (fun c3 => ?_) (fun c3 => ?_)
  · refine zw_some ?_
    first | trivial | ((try dsimp only); (repeat' apply And.intro) <;> first | assumption | grind [zu_at, zu_atL, zvn])
  refine zw_some ?_
  first | trivial | ((try dsimp only); (repeat' apply And.intro) <;> first | assumption | grind [zu_at, zu_atL, zvn])
set_option maxHeartbeats 4000000 in
theorem sf_X4_madeFrom (p1 : Int32) (v0_0 : Int32) (f1 : Nat → Int32) (h_p1 : 0 ≤ p1 ∧ p1 ≤ 13) (h_v0_0 : 0 ≤ v0_0 ∧ v0_0 ≤ 14) : zw (fn_X4_madeFrom p1 v0_0 f1) (fun r => True) := by
  unfold fn_X4_madeFrom
  refine zw_zl32 (fun s_1 => 1 ≤ s_1.2 ∧ s_1.2 ≤ 14 ∧ p1 < s_1.2) (fun s_1 => 14 - s_1.2) (by (try dsimp only); (repeat' apply And.intro) <;> first | assumption | grind [zu_at, zu_atL, zvn]) (by (try dsimp only); grind [zu_at, zu_atL, zvn]) (fun s_1 back_1 Hback_1 hback_1 => ?_)
  obtain ⟨Hback_1_0, Hback_1_1, Hback_1_2⟩ := Hback_1
  refine zw_if (fun c1 => ?_) (fun c1 => ?_)
  · refine zw_some ?_
    first | trivial | ((try dsimp only); (repeat' apply And.intro) <;> first | assumption | grind [zu_at, zu_atL, zvn])
  refine zw_zb0 (sf_X4_madeOf s_1.2 0 v0_0 f1 (by first | assumption | exact ⟨by assumption, by assumption⟩ | grind [zu_at, zu_atL, zvn])) (fun o_3 ho_3 => ?_)
  refine zw_zb0 (sf_X4_isAmong p1 s_1.1 o_3) (fun o_7 ho_7 => ?_)
  obtain ⟨ho_7_0, ho_7_1, ho_7_2, ho_7_3⟩ := ho_7
  refine zw_if (fun c2 => ?_) (fun c2 => ?_)
  · refine zw_zb0 (sf_X4_madeOf s_1.2 1 v0_0 f1 (by first | assumption | exact ⟨by assumption, by assumption⟩ | grind [zu_at, zu_atL, zvn])) (fun o_12 ho_12 => ?_)
    refine zw_zb0 (sf_X4_isAmong p1 s_1.1 o_12) (fun o_16 ho_16 => ?_)
    obtain ⟨ho_16_0, ho_16_1, ho_16_2, ho_16_3⟩ := ho_16
    refine zw_if (fun c3 => ?_) (fun c3 => ?_)
    · exact hback_1 _ (by (try dsimp only); (repeat' apply And.intro) <;> first | assumption | grind [zu_at, zu_atL, zvn]) (by (try dsimp only); grind [zu_at, zu_atL, zvn]) (by (try dsimp only); grind [zu_at, zu_atL, zvn])
    exact hback_1 _ (by (try dsimp only); (repeat' apply And.intro) <;> first | assumption | grind [zu_at, zu_atL, zvn]) (by (try dsimp only); grind [zu_at, zu_atL, zvn]) (by (try dsimp only); grind [zu_at, zu_atL, zvn])
  exact hback_1 _ (by (try dsimp only); (repeat' apply And.intro) <;> first | assumption | grind [zu_at, zu_atL, zvn]) (by (try dsimp only); grind [zu_at, zu_atL, zvn]) (by (try dsimp only); grind [zu_at, zu_atL, zvn])
