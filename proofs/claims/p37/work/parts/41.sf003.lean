set_option maxHeartbeats 4000000 in
set_option maxRecDepth 100000 in
theorem sf_X2_fix (p1 : Int32) (p2 : Int32) (v0_2 : Int32) (f1 : Nat → Int32) (h_p1 : 0 ≤ p1 ∧ p1 ≤ 13) (h_v0_2 : 0 ≤ v0_2 ∧ v0_2 ≤ 1) : zw (fn_X2_fix p1 p2 v0_2 f1) (fun r => 0 ≤ r.1 ∧ r.1 ≤ 1) := by
  unfold fn_X2_fix
  refine zw_if (fun c1 => ?_) (fun c1 => ?_)
  · refine zw_some ?_
    first | exact True.intro | ((try dsimp only); (repeat' apply And.intro) <;> first | with_reducible assumption | first | lia | grind [zu_at, zu_atL, zvn])
  refine zw_zg32 14 (by decide) (by (try dsimp only); first | lia | grind [zu_at, zu_atL, zvn]) ?_
  refine zw_if (fun c2 => ?_) (fun c2 => ?_)
  · refine zw_some ?_
    first | exact True.intro | ((try dsimp only); (repeat' apply And.intro) <;> first | with_reducible assumption | first | lia | grind [zu_at, zu_atL, zvn])
  refine zw_zj (fun s_4 => 0 ≤ s_4 ∧ s_4 ≤ 1 ∧ v0_2 ≤ s_4) (fun s_4 Hj_4 => ?_) (fun j_4 hj_4 => ?_)
  · obtain ⟨Hj_4_0, Hj_4_1, Hj_4_2⟩ := Hj_4
    refine zw_zt (by (try dsimp only); ((try clear hj_4); first | lia | grind [zu_at, zu_atL, zvn])) ?_
    refine zw_zg32 14 (by decide) (by (try dsimp only); ((try clear hj_4); first | lia | grind [zu_at, zu_atL, zvn])) ?_
    refine zw_if (fun c3 => ?_) (fun c3 => ?_)
    · refine zw_some ?_
      first | exact True.intro | ((try dsimp only); (repeat' apply And.intro) <;> first | with_reducible assumption | ((try clear hj_4); first | lia | grind [zu_at, zu_atL, zvn]))
    refine zw_some ?_
    first | exact True.intro | ((try dsimp only); (repeat' apply And.intro) <;> first | with_reducible assumption | ((try clear hj_4); first | lia | grind [zu_at, zu_atL, zvn]))
  refine zw_zj (fun _ => True) (fun s_8 Hj_8 => ?_) (fun j_8 hj_8 => ?_)
  · exact hj_4 _ (by first | exact True.intro | ((try dsimp only); (repeat' apply And.intro) <;> first | with_reducible assumption | ((try clear hj_4); (try clear hj_8); first | lia | grind [zu_at, zu_atL, zvn])))
  refine zw_if (fun c4 => ?_) (fun c4 => ?_)
  · refine zw_if (fun c5 => ?_) (fun c5 => ?_)
    · exact hj_4 _ (by first | exact True.intro | ((try dsimp only); (repeat' apply And.intro) <;> first | with_reducible assumption | ((try clear hj_4); (try clear hj_8); first | lia | grind [zu_at, zu_atL, zvn])))
    exact hj_8 _ (by first | exact True.intro | ((try dsimp only); (repeat' apply And.intro) <;> first | with_reducible assumption | ((try clear hj_4); (try clear hj_8); first | lia | grind [zu_at, zu_atL, zvn])))
  exact hj_8 _ (by first | exact True.intro | ((try dsimp only); (repeat' apply And.intro) <;> first | with_reducible assumption | ((try clear hj_4); (try clear hj_8); first | lia | grind [zu_at, zu_atL, zvn])))
set_option maxHeartbeats 4000000 in
set_option maxRecDepth 100000 in
theorem sf_X2_gather (v1_0 : Int32) (f2 : Nat → Int32) (f3 : Nat → Int32) (f4 : Nat → Int32) (f5 : Nat → Int32) (f6 : Nat → Int32) (h_v1_0 : 0 ≤ v1_0 ∧ v1_0 ≤ 14) (h_f3 : (∀ i : Nat, 0 ≤ f3 i ∧ f3 i ≤ 13)) : zw (fn_X2_gather v1_0 f2 f3 f4 f5 f6) (fun r => 0 ≤ r.1 ∧ r.1 ≤ 14 ∧ 0 ≤ r.2.1 ∧ r.2.1 ≤ 14 ∧ 0 ≤ r.2.2.1 ∧ r.2.2.1 ≤ 1 ∧ (∀ i : Nat, 0 ≤ r.2.2.2.1 i ∧ r.2.2.2.1 i ≤ 13)) := by
  unfold fn_X2_gather
  refine zw_zl32 (fun s_1 => (∀ i : Nat, 0 ≤ s_1.2.2.2.1 i ∧ s_1.2.2.2.1 i ≤ 13) ∧ 0 ≤ s_1.1 ∧ s_1.1 ≤ 14 ∧ 0 ≤ s_1.2.1 ∧ s_1.2.1 ≤ 14 ∧ 0 ≤ s_1.2.2.1 ∧ s_1.2.2.1 ≤ 1 ∧ s_1.1 ≤ v1_0 ∧ s_1.2.1 ≤ v1_0 ∧ s_1.2.1 ≤ s_1.1 ∧ s_1.2.2.1 ≤ v1_0 ∧ s_1.2.2.1 ≤ s_1.1) (fun s_1 => 14 - s_1.1) (by (try dsimp only); (repeat' apply And.intro) <;> first | with_reducible assumption | first | lia | grind [zu_at, zu_atL, zvn]) (by (try dsimp only); first | lia | grind [zu_at, zu_atL, zvn]) (fun s_1 back_1 Hback_1 hback_1 => ?_)
  obtain ⟨s_1_0, s_1_1, s_1_2, s_1_3, s_1_4, s_1_5⟩ := s_1
  try dsimp only at Hback_1 hback_1
  obtain ⟨Hback_1_0, Hback_1_1, Hback_1_2, Hback_1_3, Hback_1_4, Hback_1_5, Hback_1_6, Hback_1_7, Hback_1_8, Hback_1_9, Hback_1_10, Hback_1_11⟩ := Hback_1
  refine zw_if (fun c1 => ?_) (fun c1 => ?_)
  · refine zw_zl32 (fun s_3 => 0 ≤ s_3.1 ∧ 0 ≤ s_3.2 ∧ s_3.1 ≤ 14 ∧ s_3.2 ≤ 14 ∧ s_3.1 ≤ v1_0 ∧ s_3.2 ≤ v1_0 ∧ s_3.2 ≤ s_3.1 ∧ s_3.1 ≤ s_1_1) (fun s_3 => 14 - s_3.1) (by (try dsimp only); (repeat' apply And.intro) <;> first | with_reducible assumption | ((try clear hback_1); first | lia | grind [zu_at, zu_atL, zvn])) (by (try dsimp only); ((try clear hback_1); first | lia | grind [zu_at, zu_atL, zvn])) (fun s_3 back_3 Hback_3 hback_3 => ?_)
    obtain ⟨s_3_0, s_3_1⟩ := s_3
    try dsimp only at Hback_3 hback_3
    obtain ⟨Hback_3_0, Hback_3_1, Hback_3_2, Hback_3_3, Hback_3_4, Hback_3_5, Hback_3_6, Hback_3_7⟩ := Hback_3
    refine zw_if (fun c2 => ?_) (fun c2 => ?_)
    · refine zw_some ?_
      first | exact True.intro | ((try dsimp only); (repeat' apply And.intro) <;> first | with_reducible assumption | ((try clear hback_1); (try clear hback_3); first | lia | grind [zu_at, zu_atL, zvn]))
    refine zw_zg32 14 (by decide) (by (try dsimp only); ((try clear hback_1); (try clear hback_3); first | lia | grind [zu_at, zu_atL, zvn])) ?_
    refine zw_if (fun c3 => ?_) (fun c3 => ?_)
    · exact hback_3 _ (by (try dsimp only); (repeat' apply And.intro) <;> first | with_reducible assumption | ((try clear hback_1); (try clear hback_3); first | lia | grind [zu_at, zu_atL, zvn])) (by (try dsimp only); ((try clear hback_1); (try clear hback_3); first | lia | grind [zu_at, zu_atL, zvn])) (by (try dsimp only); ((try clear hback_1); (try clear hback_3); first | lia | grind [zu_at, zu_atL, zvn]))
    exact hback_3 _ (by (try dsimp only); (repeat' apply And.intro) <;> first | with_reducible assumption | ((try clear hback_1); (try clear hback_3); first | lia | grind [zu_at, zu_atL, zvn])) (by (try dsimp only); ((try clear hback_1); (try clear hback_3); first | lia | grind [zu_at, zu_atL, zvn])) (by (try dsimp only); ((try clear hback_1); (try clear hback_3); first | lia | grind [zu_at, zu_atL, zvn]))
  refine zw_zb0 (sf_X2_earlierGroup s_1_0 f2 s_1_3 (by first | with_reducible assumption | exact ⟨by with_reducible assumption, by with_reducible assumption⟩ | ((try clear hback_1); (try clear hback_3); first | lia | grind [zu_at, zu_atL, zvn])) (by first | with_reducible assumption | exact ⟨by with_reducible assumption, by with_reducible assumption⟩ | ((try clear hback_1); (try clear hback_3); first | lia | grind [zu_at, zu_atL, zvn]))) (fun o_7 ho_7 => ?_)
  obtain ⟨ho_7_0, ho_7_1⟩ := ho_7
  refine zw_zg32 14 (by decide) (by (try dsimp only); ((try clear hback_1); (try clear hback_3); first | lia | grind [zu_at, zu_atL, zvn])) ?_
  refine zw_zj (fun s_12 => (∀ i : Nat, 0 ≤ s_12.2.1 i ∧ s_12.2.1 i ≤ 13) ∧ 0 ≤ s_12.1 ∧ s_12.1 ≤ 14 ∧ s_12.1 ≤ v1_0 ∧ s_1_1 ≤ s_12.1 ∧ s_12.1 ≤ s_1_0 + 1 ∧ s_12.1 ≤ s_1_1 + 1) (fun s_12 Hj_12 => ?_) (fun j_12 hj_12 => ?_)
  · obtain ⟨s_12_0, s_12_1, s_12_2, s_12_3⟩ := s_12
    try dsimp only at Hj_12
    obtain ⟨Hj_12_0, Hj_12_1, Hj_12_2, Hj_12_3, Hj_12_4, Hj_12_5, Hj_12_6⟩ := Hj_12
    refine zw_zg32 14 (by decide) (by (try dsimp only); ((try clear hback_1); (try clear hback_3); (try clear hj_12); first | lia | grind [zu_at, zu_atL, zvn])) ?_
    refine zw_zb0 (sf_X2_fix (s_12_1 s_1_0.toNatClampNeg) (f6 s_1_0.toNatClampNeg) s_1_2 s_12_2 (by first | with_reducible assumption | exact ⟨by with_reducible assumption, by with_reducible assumption⟩ | ((try clear hback_1); (try clear hback_3); (try clear hj_12); first | lia | grind [zu_at, zu_atL, zvn])) (by first | with_reducible assumption | exact ⟨by with_reducible assumption, by with_reducible assumption⟩ | ((try clear hback_1); (try clear hback_3); (try clear hj_12); first | lia | grind [zu_at, zu_atL, zvn]))) (fun o_14 ho_14 => ?_)
    obtain ⟨o_14_0, o_14_1⟩ := o_14
    try dsimp only at ho_14
    obtain ⟨ho_14_0, ho_14_1⟩ := ho_14
    exact hback_1 _ (by (try dsimp only); (repeat' apply And.intro) <;> first | with_reducible assumption | ((try clear hback_1); (try clear hback_3); (try clear hj_12); first | lia | grind [zu_at, zu_atL, zvn])) (by (try dsimp only); ((try clear hback_1); (try clear hback_3); (try clear hj_12); first | lia | grind [zu_at, zu_atL, zvn])) (by (try dsimp only); ((try clear hback_1); (try clear hback_3); (try clear hj_12); first | lia | grind [zu_at, zu_atL, zvn]))
  refine zw_if (fun c4 => ?_) (fun c4 => ?_)
  · refine zw_zn1 ?_
    refine zw_zg32 14 (by decide) (by (try dsimp only); ((try clear hback_1); (try clear hback_3); (try clear hj_12); first | lia | grind [zu_at, zu_atL, zvn])) ?_
    exact hj_12 _ (by first | exact True.intro | ((try dsimp only); (repeat' apply And.intro) <;> first | with_reducible assumption | ((try clear hback_1); (try clear hback_3); (try clear hj_12); first | lia | grind [zu_at, zu_atL, zvn])))
  exact hj_12 _ (by first | exact True.intro | ((try dsimp only); (repeat' apply And.intro) <;> first | with_reducible assumption | ((try clear hback_1); (try clear hback_3); (try clear hj_12); first | lia | grind [zu_at, zu_atL, zvn])))
set_option maxHeartbeats 4000000 in
set_option maxRecDepth 100000 in
theorem sf_X2_isFree (p1 : Int32) (v0_0 : Int32) (f1 : Nat → Int32) (h_v0_0 : 0 ≤ v0_0 ∧ v0_0 ≤ 14) : zw (fn_X2_isFree p1 v0_0 f1) (fun r => 0 ≤ r ∧ r ≤ 1 ∧ r ≤ v0_0 ∧ (¬ r = 0 → 0 ≤ p1 ∧ 1 ≤ r ∧ p1 ≤ 13 ∧ p1 < v0_0 ∧ (f1 p1.toNatClampNeg) ≤ (-1) ∧ (-1) ≤ (f1 p1.toNatClampNeg)) ∧ (r = 1 → 0 ≤ p1 ∧ p1 ≤ 13 ∧ 1 ≤ v0_0 ∧ p1 < v0_0 ∧ (f1 p1.toNatClampNeg) ≤ (-1) ∧ (-1) ≤ (f1 p1.toNatClampNeg) ∧ (f1 p1.toNatClampNeg) + 2 ≤ r) ∧ (¬ r = 1 → r ≤ 0)) := by
  unfold fn_X2_isFree
  refine zw_if (fun c1 => ?_) (fun c1 => ?_)
  · refine zw_some ?_
    first | exact True.intro | ((try dsimp only); (repeat' apply And.intro) <;> first | with_reducible assumption | first | lia | grind [zu_at, zu_atL, zvn])
  refine zw_if (fun c2 => ?_) (fun c2 => ?_)
  · refine zw_some ?_
    first | exact True.intro | ((try dsimp only); (repeat' apply And.intro) <;> first | with_reducible assumption | first | lia | grind [zu_at, zu_atL, zvn])
  refine zw_zg32 14 (by decide) (by (try dsimp only); first | lia | grind [zu_at, zu_atL, zvn]) ?_
  refine zw_if (fun c3 => ?_) (fun c3 => ?_)
  · refine zw_some ?_
    first | exact True.intro | ((try dsimp only); (repeat' apply And.intro) <;> first | with_reducible assumption | first | lia | grind [zu_at, zu_atL, zvn])
  refine zw_some ?_
  first | exact True.intro | ((try dsimp only); (repeat' apply And.intro) <;> first | with_reducible assumption | first | lia | grind [zu_at, zu_atL, zvn])
set_option maxHeartbeats 4000000 in
set_option maxRecDepth 100000 in
theorem sf_X2_leaderOf (p1 : Int32) (v0_0 : Int32) (f1 : Nat → Int32) (h_v0_0 : 0 ≤ v0_0 ∧ v0_0 ≤ 14) : zw (fn_X2_leaderOf p1 v0_0 f1) (fun r => True) := by
  unfold fn_X2_leaderOf
  refine zw_if (fun c1 => ?_) (fun c1 => ?_)
  · refine zw_some ?_
    first | exact True.intro | ((try dsimp only); (repeat' apply And.intro) <;> first | with_reducible assumption | first | lia | grind [zu_at, zu_atL, zvn])
  refine zw_if (fun c2 => ?_) (fun c2 => ?_)
  · refine zw_some ?_
    first | exact True.intro | ((try dsimp only); (repeat' apply And.intro) <;> first | with_reducible assumption | first | lia | grind [zu_at, zu_atL, zvn])
  refine zw_zg32 14 (by decide) (by (try dsimp only); first | lia | grind [zu_at, zu_atL, zvn]) ?_
  refine zw_some ?_
  first | exact True.intro | ((try dsimp only); (repeat' apply And.intro) <;> first | with_reducible assumption | first | lia | grind [zu_at, zu_atL, zvn])
set_option maxHeartbeats 4000000 in
set_option maxRecDepth 100000 in
theorem sf_X3_forget  : zw (fn_X3_forget) (fun r => 0 ≤ r ∧ r ≤ 1 ∧ r ≤ 0) := by
  unfold fn_X3_forget
  refine zw_some ?_
  first | exact True.intro | ((try dsimp only); (repeat' apply And.intro) <;> first | with_reducible assumption | first | lia | grind [zu_at, zu_atL, zvn])
set_option maxHeartbeats 4000000 in
set_option maxRecDepth 100000 in
theorem sf_X9_finestFormat (v0_0 : Int32) (f1 : Nat → Int32) (h_v0_0 : 0 ≤ v0_0 ∧ v0_0 ≤ 4) : zw (fn_X9_finestFormat v0_0 f1) (fun r => 0 ≤ r ∧ r ≤ 3 ∧ r ≤ v0_0) := by
  unfold fn_X9_finestFormat
  refine zw_zl32 (fun s_1 => 0 ≤ s_1.1 ∧ 1 ≤ s_1.2 ∧ s_1.1 ≤ 3 ∧ s_1.2 ≤ 4 ∧ s_1.1 ≤ v0_0 ∧ s_1.1 < s_1.2 ∧ s_1.2 ≤ v0_0 + 1) (fun s_1 => 4 - s_1.2) (by (try dsimp only); first | with_reducible assumption | grind [zu_at, zu_atL, zvn] | ((repeat' apply And.intro) <;> first | with_reducible assumption | first | lia | grind [zu_at, zu_atL, zvn])) (by (try dsimp only); first | lia | grind [zu_at, zu_atL, zvn]) (fun s_1 back_1 Hback_1 hback_1 => ?_)
  obtain ⟨s_1_0, s_1_1⟩ := s_1
  try dsimp only at Hback_1 hback_1
  obtain ⟨Hback_1_0, Hback_1_1, Hback_1_2, Hback_1_3, Hback_1_4, Hback_1_5, Hback_1_6⟩ := Hback_1
  refine zw_if (fun c1 => ?_) (fun c1 => ?_)
  · refine zw_some ?_
    first | exact True.intro | ((try dsimp only); first | with_reducible assumption | grind [zu_at, zu_atL, zvn] | ((repeat' apply And.intro) <;> first | with_reducible assumption | ((try clear hback_1); first | lia | grind [zu_at, zu_atL, zvn])))
  refine zw_zg32 4 (by decide) (by (try dsimp only); ((try clear hback_1); first | lia | grind [zu_at, zu_atL, zvn])) ?_
  refine zw_zg32 4 (by decide) (by (try dsimp only); ((try clear hback_1); first | lia | grind [zu_at, zu_atL, zvn])) ?_
  refine zw_if (fun c2 => ?_) (fun c2 => ?_)
  · exact hback_1 _ (by (try dsimp only); first | with_reducible assumption | grind [zu_at, zu_atL, zvn] | ((repeat' apply And.intro) <;> first | with_reducible assumption | ((try clear hback_1); first | lia | grind [zu_at, zu_atL, zvn]))) (by (try dsimp only); ((try clear hback_1); first | lia | grind [zu_at, zu_atL, zvn])) (by (try dsimp only); ((try clear hback_1); first | lia | grind [zu_at, zu_atL, zvn]))
  exact hback_1 _ (by (try dsimp only); first | with_reducible assumption | grind [zu_at, zu_atL, zvn] | ((repeat' apply And.intro) <;> first | with_reducible assumption | ((try clear hback_1); first | lia | grind [zu_at, zu_atL, zvn]))) (by (try dsimp only); ((try clear hback_1); first | lia | grind [zu_at, zu_atL, zvn])) (by (try dsimp only); ((try clear hback_1); first | lia | grind [zu_at, zu_atL, zvn]))
set_option maxHeartbeats 4000000 in
set_option maxRecDepth 100000 in
theorem sf_X3_findUnchanged (v2_0 : Int32) (f3 : Nat → Int32) (f4 : Nat → Int32) (f5 : Nat → Int32) (h_v2_0 : 0 ≤ v2_0 ∧ v2_0 ≤ 14) (h_f4 : (∀ i : Nat, 0 ≤ f4 i ∧ f4 i ≤ 1)) (h_f5 : (∀ i : Nat, 0 ≤ f5 i ∧ f5 i ≤ 13)) : zw (fn_X3_findUnchanged v2_0 f3 f4 f5) (fun r => (∀ i : Nat, 0 ≤ r.2 i ∧ r.2 i ≤ 13) ∧ 0 ≤ r.1 ∧ r.1 ≤ 14) := by
  unfold fn_X3_findUnchanged
  refine zw_zl32 (fun s_1 => (∀ i : Nat, 0 ≤ s_1.2.2 i ∧ s_1.2.2 i ≤ 13) ∧ 0 ≤ s_1.1 ∧ s_1.1 ≤ 14 ∧ 0 ≤ s_1.2.1 ∧ s_1.2.1 ≤ 14 ∧ s_1.1 ≤ v2_0 ∧ s_1.2.1 ≤ v2_0 ∧ s_1.1 ≤ s_1.2.1) (fun s_1 => 14 - s_1.2.1) (by (try dsimp only); (repeat' apply And.intro) <;> first | with_reducible assumption | first | lia | grind [zu_at, zu_atL, zvn]) (by (try dsimp only); first | lia | grind [zu_at, zu_atL, zvn]) (fun s_1 back_1 Hback_1 hback_1 => ?_)
  obtain ⟨s_1_0, s_1_1, s_1_2⟩ := s_1
  try dsimp only at Hback_1 hback_1
  obtain ⟨Hback_1_0, Hback_1_1, Hback_1_2, Hback_1_3, Hback_1_4, Hback_1_5, Hback_1_6, Hback_1_7⟩ := Hback_1
  refine zw_if (fun c1 => ?_) (fun c1 => ?_)
  · refine zw_some ?_
    first | exact True.intro | ((try dsimp only); (repeat' apply And.intro) <;> first | with_reducible assumption | ((try clear hback_1); first | lia | grind [zu_at, zu_atL, zvn]))
  refine zw_zg32 14 (by decide) (by (try dsimp only); ((try clear hback_1); first | lia | grind [zu_at, zu_atL, zvn])) ?_
  refine zw_if (fun c2 => ?_) (fun c2 => ?_)
  · refine zw_if (fun c3 => ?_) (fun c3 => ?_)
    · refine zw_zg32 14 (by decide) (by (try dsimp only); ((try clear hback_1); first | lia | grind [zu_at, zu_atL, zvn])) ?_
      exact hback_1 _ (by (try dsimp only); (repeat' apply And.intro) <;> first | with_reducible assumption | ((try clear hback_1); first | lia | grind [zu_at, zu_atL, zvn])) (by (try dsimp only); ((try clear hback_1); first | lia | grind [zu_at, zu_atL, zvn])) (by (try dsimp only); ((try clear hback_1); first | lia | grind [zu_at, zu_atL, zvn]))
    exact hback_1 _ (by (try dsimp only); (repeat' apply And.intro) <;> first | with_reducible assumption | ((try clear hback_1); first | lia | grind [zu_at, zu_atL, zvn])) (by (try dsimp only); ((try clear hback_1); first | lia | grind [zu_at, zu_atL, zvn])) (by (try dsimp only); ((try clear hback_1); first | lia | grind [zu_at, zu_atL, zvn]))
  exact hback_1 _ (by (try dsimp only); (repeat' apply And.intro) <;> first | with_reducible assumption | ((try clear hback_1); first | lia | grind [zu_at, zu_atL, zvn])) (by (try dsimp only); ((try clear hback_1); first | lia | grind [zu_at, zu_atL, zvn])) (by (try dsimp only); ((try clear hback_1); first | lia | grind [zu_at, zu_atL, zvn]))
set_option maxHeartbeats 4000000 in
set_option maxRecDepth 100000 in
theorem sf_X3_addPart (p1 : Int32) (p2 : Int32) (v0_8 : Int32) (f1 : Nat → Int32) (f2 : Nat → Int32) (h_p1 : 0 ≤ p1 ∧ p1 ≤ 14) (h_p2 : 0 ≤ p2 ∧ p2 ≤ 14) (h_v0_8 : 0 ≤ v0_8 ∧ v0_8 ≤ 28) (h_f1 : (∀ i : Nat, 0 ≤ f1 i ∧ f1 i ≤ 14)) (h_f2 : (∀ i : Nat, 0 ≤ f2 i ∧ f2 i ≤ 14)) : zw (fn_X3_addPart p1 p2 v0_8 f1 f2) (fun r => 0 ≤ r.1 ∧ r.1 ≤ 28 ∧ (∀ i : Nat, 0 ≤ r.2.1 i ∧ r.2.1 i ≤ 14) ∧ (∀ i : Nat, 0 ≤ r.2.2 i ∧ r.2.2 i ≤ 14) ∧ 1 ≤ r.1) := by
  unfold fn_X3_addPart
  refine zw_if (fun c1 => ?_) (fun c1 => ?_)
  · refine zw_some ?_
    first | exact True.intro | ((try dsimp only); (repeat' apply And.intro) <;> first | with_reducible assumption | first | lia | grind [zu_at, zu_atL, zvn])
  refine zw_zg32 28 (by decide) (by (try dsimp only); first | lia | grind [zu_at, zu_atL, zvn]) ?_
  refine zw_some ?_
  first | exact True.intro | ((try dsimp only); (repeat' apply And.intro) <;> first | with_reducible assumption | first | lia | grind [zu_at, zu_atL, zvn])
set_option maxHeartbeats 4000000 in
set_option maxRecDepth 100000 in
theorem sf_X3_setPart (p1 : Int32) (p2 : Int32) (p3 : Int32) (f1 : Nat → Int32) (f2 : Nat → Int32) (h_p1 : 0 ≤ p1 ∧ p1 ≤ 14) (h_p2 : 0 ≤ p2 ∧ p2 ≤ 14) (h_f1 : (∀ i : Nat, 0 ≤ f1 i ∧ f1 i ≤ 13)) : zw (fn_X3_setPart p1 p2 p3 f1 f2) (fun r => True) := by
  unfold fn_X3_setPart
  refine zw_zl32 (fun s_1 => 0 ≤ s_1.1 ∧ s_1.1 ≤ 14 ∧ p1 ≤ s_1.1) (fun s_1 => 14 - s_1.1) (by (try dsimp only); (repeat' apply And.intro) <;> first | with_reducible assumption | first | lia | grind [zu_at, zu_atL, zvn]) (by (try dsimp only); first | lia | grind [zu_at, zu_atL, zvn]) (fun s_1 back_1 Hback_1 hback_1 => ?_)
  obtain ⟨s_1_0, s_1_1⟩ := s_1
  try dsimp only at Hback_1 hback_1
  obtain ⟨Hback_1_0, Hback_1_1, Hback_1_2⟩ := Hback_1
  refine zw_if (fun c1 => ?_) (fun c1 => ?_)
  · refine zw_some ?_
    first | exact True.intro | ((try dsimp only); (repeat' apply And.intro) <;> first | with_reducible assumption | ((try clear hback_1); first | lia | grind [zu_at, zu_atL, zvn]))
  refine zw_zg32 14 (by decide) (by (try dsimp only); ((try clear hback_1); first | lia | grind [zu_at, zu_atL, zvn])) ?_
  refine zw_zg32 14 (by decide) (by (try dsimp only); ((try clear hback_1); first | lia | grind [zu_at, zu_atL, zvn])) ?_
  exact hback_1 _ (by (try dsimp only); (repeat' apply And.intro) <;> first | with_reducible assumption | ((try clear hback_1); first | lia | grind [zu_at, zu_atL, zvn])) (by (try dsimp only); ((try clear hback_1); first | lia | grind [zu_at, zu_atL, zvn])) (by (try dsimp only); ((try clear hback_1); first | lia | grind [zu_at, zu_atL, zvn]))
set_option maxHeartbeats 4000000 in
set_option maxRecDepth 100000 in
theorem sf_X3_changePart (p2 : Int32) (p3 : Int32) (p4 : Int32) (p5 : Int32) (v0_10 : Int32) (f1 : Nat → Int32) (f2 : Nat → Int32) (v3_0 : Int32) (v3_5 : Int32) (v4_0 : Int32) (f5 : Nat → Int32) (f7 : Nat → Int32) (f8 : Nat → Int32) (v9_1 : Int32) (v9_2 : Int32) (f10 : Nat → Int32) (f11 : Nat → Int32) (f12 : Nat → Int64) (f13 : Nat → Int32) (f15 : Nat → Int64) (f16 : Nat → Int64) (f17 : Nat → Int32) (f18 : Nat → Int32) (f19 : Nat → Int32) (h_p2 : 0 ≤ p2 ∧ p2 ≤ 14) (h_p3 : 0 ≤ p3 ∧ p3 ≤ 14) (h_f1 : (∀ i : Nat, 0 ≤ f1 i ∧ f1 i ≤ 13)) (h_v3_0 : 0 ≤ v3_0 ∧ v3_0 ≤ 4) (h_v4_0 : 0 ≤ v4_0 ∧ v4_0 ≤ 14) (h_f7 : (∀ i : Nat, 0 ≤ f7 i ∧ f7 i ≤ 13)) (h_f19 : (∀ i : Nat, 0 ≤ f19 i ∧ f19 i ≤ 1)) : zw (fn_X3_changePart p2 p3 p4 p5 v0_10 f1 f2 v3_0 v3_5 v4_0 f5 f7 f8 v9_1 v9_2 f10 f11 f12 f13 f15 f16 f17 f18 f19) (fun r => 0 ≤ r.1 ∧ r.1 ≤ 1 ∧ (∀ i : Nat, 0 ≤ r.2.2.2.2.2.2 i ∧ r.2.2.2.2.2.2 i ≤ 1)) := by
  unfold fn_X3_changePart
  refine zw_zb0 (sf_X3_setPart p2 p3 p4 f1 f2 (by first | with_reducible assumption | exact ⟨by with_reducible assumption, by with_reducible assumption⟩ | first | lia | grind [zu_at, zu_atL, zvn]) (by first | with_reducible assumption | exact ⟨by with_reducible assumption, by with_reducible assumption⟩ | first | lia | grind [zu_at, zu_atL, zvn]) (by first | with_reducible assumption | exact ⟨by with_reducible assumption, by with_reducible assumption⟩ | first | lia | grind [zu_at, zu_atL, zvn])) (fun o_1 ho_1 => ?_)
  refine zw_zb0 (sf_X9_priceOf v3_0 v3_5 v4_0 f5 f7 o_1 f8 (by first | with_reducible assumption | exact ⟨by with_reducible assumption, by with_reducible assumption⟩ | first | lia | grind [zu_at, zu_atL, zvn]) (by first | with_reducible assumption | exact ⟨by with_reducible assumption, by with_reducible assumption⟩ | first | lia | grind [zu_at, zu_atL, zvn]) (by first | with_reducible assumption | exact ⟨by with_reducible assumption, by with_reducible assumption⟩ | first | lia | grind [zu_at, zu_atL, zvn])) (fun o_5 ho_5 => ?_)
  refine zw_if (fun c1 => ?_) (fun c1 => ?_)
  · refine zw_zb0 (sf_X3_setPart p2 p3 p5 f1 o_1 (by first | with_reducible assumption | exact ⟨by with_reducible assumption, by with_reducible assumption⟩ | first | lia | grind [zu_at, zu_atL, zvn]) (by first | with_reducible assumption | exact ⟨by with_reducible assumption, by with_reducible assumption⟩ | first | lia | grind [zu_at, zu_atL, zvn]) (by first | with_reducible assumption | exact ⟨by with_reducible assumption, by with_reducible assumption⟩ | first | lia | grind [zu_at, zu_atL, zvn])) (fun o_10 ho_10 => ?_)
    refine zw_some ?_
    first | exact True.intro | ((try dsimp only); (repeat' apply And.intro) <;> first | with_reducible assumption | first | lia | grind [zu_at, zu_atL, zvn])
  refine zw_zb0 (sf_X7_reckon v3_0 v4_0 f7 o_1 f10 f11 f5 f12 f13 f15 f16 f17 f18 (by first | with_reducible assumption | exact ⟨by with_reducible assumption, by with_reducible assumption⟩ | first | lia | grind [zu_at, zu_atL, zvn]) (by first | with_reducible assumption | exact ⟨by with_reducible assumption, by with_reducible assumption⟩ | first | lia | grind [zu_at, zu_atL, zvn]) (by first | with_reducible assumption | exact ⟨by with_reducible assumption, by with_reducible assumption⟩ | first | lia | grind [zu_at, zu_atL, zvn])) (fun o_14 ho_14 => ?_)
  obtain ⟨o_14_0, o_14_1, o_14_2, o_14_3⟩ := o_14
  try dsimp only at ho_14
  obtain ⟨ho_14_0, ho_14_1, ho_14_2, ho_14_3, ho_14_4, ho_14_5, ho_14_6, ho_14_7, ho_14_8, ho_14_9, ho_14_10, ho_14_11⟩ := ho_14
  refine zw_if (fun c2 => ?_) (fun c2 => ?_)
  · refine zw_zb0 (sf_X3_setPart p2 p3 p5 f1 o_1 (by first | with_reducible assumption | exact ⟨by with_reducible assumption, by with_reducible assumption⟩ | first | lia | grind [zu_at, zu_atL, zvn]) (by first | with_reducible assumption | exact ⟨by with_reducible assumption, by with_reducible assumption⟩ | first | lia | grind [zu_at, zu_atL, zvn]) (by first | with_reducible assumption | exact ⟨by with_reducible assumption, by with_reducible assumption⟩ | first | lia | grind [zu_at, zu_atL, zvn])) (fun o_24 ho_24 => ?_)
    refine zw_some ?_
    first | exact True.intro | ((try dsimp only); (repeat' apply And.intro) <;> first | with_reducible assumption | first | lia | grind [zu_at, zu_atL, zvn])
  refine zw_zl32 (fun s_19 => (∀ i : Nat, 0 ≤ s_19.2 i ∧ s_19.2 i ≤ 1) ∧ 0 ≤ s_19.1 ∧ s_19.1 ≤ 14 ∧ p2 ≤ s_19.1) (fun s_19 => 14 - s_19.1) (by (try dsimp only); (repeat' apply And.intro) <;> first | with_reducible assumption | first | lia | grind [zu_at, zu_atL, zvn]) (by (try dsimp only); first | lia | grind [zu_at, zu_atL, zvn]) (fun s_19 back_19 Hback_19 hback_19 => ?_)
  obtain ⟨s_19_0, s_19_1⟩ := s_19
  try dsimp only at Hback_19 hback_19
  obtain ⟨Hback_19_0, Hback_19_1, Hback_19_2, Hback_19_3⟩ := Hback_19
  refine zw_if (fun c3 => ?_) (fun c3 => ?_)
  · refine zw_some ?_
    first | exact True.intro | ((try dsimp only); (repeat' apply And.intro) <;> first | with_reducible assumption | ((try clear hback_19); first | lia | grind [zu_at, zu_atL, zvn]))
  refine zw_zg32 14 (by decide) (by (try dsimp only); ((try clear hback_19); first | lia | grind [zu_at, zu_atL, zvn])) ?_
  refine zw_zg32 14 (by decide) (by (try dsimp only); ((try clear hback_19); first | lia | grind [zu_at, zu_atL, zvn])) ?_
  refine zw_zn1 ?_
  exact hback_19 _ (by (try dsimp only); (repeat' apply And.intro) <;> first | with_reducible assumption | ((try clear hback_19); first | lia | grind [zu_at, zu_atL, zvn])) (by (try dsimp only); ((try clear hback_19); first | lia | grind [zu_at, zu_atL, zvn])) (by (try dsimp only); ((try clear hback_19); first | lia | grind [zu_at, zu_atL, zvn]))
set_option maxHeartbeats 4000000 in
set_option maxRecDepth 100000 in
theorem sf_X3_halveWith (p2 : Int32) (p3 : Int32) (v0_10 : Int32) (v0_11 : Int32) (v1_0 : Int32) (v1_5 : Int32) (v2_0 : Int32) (f3 : Nat → Int32) (f4 : Nat → Int32) (f5 : Nat → Int32) (f6 : Nat → Int32) (f7 : Nat → Int32) (f8 : Nat → Int32) (v9_0 : Int32) (f10 : Nat → Int32) (f11 : Nat → Int32) (f12 : Nat → Int32) (v13_1 : Int32) (v13_2 : Int32) (f14 : Nat → Int32) (f15 : Nat → Int32) (f16 : Nat → Int64) (f17 : Nat → Int32) (f19 : Nat → Int64) (f20 : Nat → Int64) (f21 : Nat → Int32) (f22 : Nat → Int32) (h_v1_0 : 0 ≤ v1_0 ∧ v1_0 ≤ 4) (h_v2_0 : 0 ≤ v2_0 ∧ v2_0 ≤ 14) (h_f4 : (∀ i : Nat, 0 ≤ f4 i ∧ f4 i ≤ 1)) (h_f5 : (∀ i : Nat, 0 ≤ f5 i ∧ f5 i ≤ 13)) (h_f6 : (∀ i : Nat, 0 ≤ f6 i ∧ f6 i ≤ 14)) (h_f7 : (∀ i : Nat, 0 ≤ f7 i ∧ f7 i ≤ 14)) (h_v9_0 : 0 ≤ v9_0 ∧ v9_0 ≤ 14) (h_f11 : (∀ i : Nat, 0 ≤ f11 i ∧ f11 i ≤ 13)) : zw (fn_X3_halveWith p2 p3 v0_10 v0_11 v1_0 v1_5 v2_0 f3 f4 f5 f6 f7 f8 v9_0 f10 f11 f12 v13_1 v13_2 f14 f15 f16 f17 f19 f20 f21 f22) (fun r => 0 ≤ r.2.2.1 ∧ r.2.2.1 ≤ 28 ∧ (∀ i : Nat, 0 ≤ r.2.2.2.1 i ∧ r.2.2.2.1 i ≤ 1) ∧ (∀ i : Nat, 0 ≤ r.2.2.2.2.1 i ∧ r.2.2.2.2.1 i ≤ 13) ∧ (∀ i : Nat, 0 ≤ r.2.2.2.2.2.1 i ∧ r.2.2.2.2.2.1 i ≤ 14) ∧ (∀ i : Nat, 0 ≤ r.2.2.2.2.2.2.1 i ∧ r.2.2.2.2.2.2.1 i ≤ 14)) := by
  unfold fn_X3_halveWith
  refine zw_zb0 (sf_X3_findUnchanged v2_0 f3 f4 f5 (by first | with_reducible assumption | exact ⟨by with_reducible assumption, by with_reducible assumption⟩ | first | lia | grind [zu_at, zu_atL, zvn]) (by first | with_reducible assumption | exact ⟨by with_reducible assumption, by with_reducible assumption⟩ | first | lia | grind [zu_at, zu_atL, zvn]) (by first | with_reducible assumption | exact ⟨by with_reducible assumption, by with_reducible assumption⟩ | first | lia | grind [zu_at, zu_atL, zvn])) (fun o_1 ho_1 => ?_)
  obtain ⟨o_1_0, o_1_1⟩ := o_1
  try dsimp only at ho_1
  obtain ⟨ho_1_0, ho_1_1, ho_1_2⟩ := ho_1
  refine zw_zj (fun s_5 => (∀ i : Nat, 0 ≤ s_5.2.1 i ∧ s_5.2.1 i ≤ 14) ∧ (∀ i : Nat, 0 ≤ s_5.2.2 i ∧ s_5.2.2 i ≤ 14) ∧ 0 ≤ s_5.1 ∧ s_5.1 ≤ 28) (fun s_5 Hj_5 => ?_) (fun j_5 hj_5 => ?_)
  · obtain ⟨s_5_0, s_5_1, s_5_2⟩ := s_5
    try dsimp only at Hj_5
    obtain ⟨Hj_5_0, Hj_5_1, Hj_5_2, Hj_5_3⟩ := Hj_5
    refine zw_zl32 (fun s_6 => (∀ i : Nat, 0 ≤ s_6.2.2.2.2.2.2.1 i ∧ s_6.2.2.2.2.2.2.1 i ≤ 1) ∧ (∀ i : Nat, 0 ≤ s_6.2.2.2.2.2.2.2.1 i ∧ s_6.2.2.2.2.2.2.2.1 i ≤ 14) ∧ (∀ i : Nat, 0 ≤ s_6.2.2.2.2.2.2.2.2.1 i ∧ s_6.2.2.2.2.2.2.2.2.1 i ≤ 14) ∧ 0 ≤ s_6.1 ∧ s_6.1 ≤ 28 ∧ 0 ≤ s_6.2.2.2.1 ∧ s_6.2.2.2.1 ≤ 28) (fun s_6 => 28 - s_6.1) (by (try dsimp only); (repeat' apply And.intro) <;> first | with_reducible assumption | ((try clear hj_5); first | lia | grind [zu_at, zu_atL, zvn])) (by (try dsimp only); ((try clear hj_5); first | lia | grind [zu_at, zu_atL, zvn])) (fun s_6 back_6 Hback_6 hback_6 => ?_)
    obtain ⟨s_6_0, s_6_1, s_6_2, s_6_3, s_6_4, s_6_5, s_6_6, s_6_7, s_6_8, s_6_9, s_6_10⟩ := s_6
    try dsimp only at Hback_6 hback_6
    obtain ⟨Hback_6_0, Hback_6_1, Hback_6_2, Hback_6_3, Hback_6_4, Hback_6_5, Hback_6_6⟩ := Hback_6
    refine zw_if (fun c1 => ?_) (fun c1 => ?_)
    · refine zw_some ?_
      first | exact True.intro | ((try dsimp only); (repeat' apply And.intro) <;> first | with_reducible assumption | ((try clear hj_5); (try clear hback_6); first | lia | grind [zu_at, zu_atL, zvn]))
    refine zw_if (fun c2 => ?_) (fun c2 => ?_)
    · refine zw_some ?_
      first | exact True.intro | ((try dsimp only); (repeat' apply And.intro) <;> first | with_reducible assumption | ((try clear hj_5); (try clear hback_6); first | lia | grind [zu_at, zu_atL, zvn]))
    refine zw_zg32 28 (by decide) (by (try dsimp only); ((try clear hj_5); (try clear hback_6); first | lia | grind [zu_at, zu_atL, zvn])) ?_
    refine zw_zb0 (sf_X3_changePart (s_6_7 s_6_0.toNatClampNeg) (s_6_8 s_6_0.toNatClampNeg) p2 p3 s_6_1 o_1_1 s_6_9 v1_0 v1_5 v9_0 f10 f11 f12 s_6_4 s_6_5 f14 f15 s_6_10 f17 f19 f20 f21 f22 s_6_6 (by first | with_reducible assumption | exact ⟨by with_reducible assumption, by with_reducible assumption⟩ | ((try clear hj_5); (try clear hback_6); first | lia | grind [zu_at, zu_atL, zvn])) (by first | with_reducible assumption | exact ⟨by with_reducible assumption, by with_reducible assumption⟩ | ((try clear hj_5); (try clear hback_6); first | lia | grind [zu_at, zu_atL, zvn])) (by first | with_reducible assumption | exact ⟨by with_reducible assumption, by with_reducible assumption⟩ | ((try clear hj_5); (try clear hback_6); first | lia | grind [zu_at, zu_atL, zvn])) (by first | with_reducible assumption | exact ⟨by with_reducible assumption, by with_reducible assumption⟩ | ((try clear hj_5); (try clear hback_6); first | lia | grind [zu_at, zu_atL, zvn])) (by first | with_reducible assumption | exact ⟨by with_reducible assumption, by with_reducible assumption⟩ | ((try clear hj_5); (try clear hback_6); first | lia | grind [zu_at, zu_atL, zvn])) (by first | with_reducible assumption | exact ⟨by with_reducible assumption, by with_reducible assumption⟩ | ((try clear hj_5); (try clear hback_6); first | lia | grind [zu_at, zu_atL, zvn])) (by first | with_reducible assumption | exact ⟨by with_reducible assumption, by with_reducible assumption⟩ | ((try clear hj_5); (try clear hback_6); first | lia | grind [zu_at, zu_atL, zvn]))) (fun o_10 ho_10 => ?_)
    obtain ⟨o_10_0, o_10_1, o_10_2, o_10_3, o_10_4, o_10_5, o_10_6⟩ := o_10
    try dsimp only at ho_10
    obtain ⟨ho_10_0, ho_10_1, ho_10_2⟩ := ho_10
    refine zw_if (fun c3 => ?_) (fun c3 => ?_)
    · refine zw_zn (fun x_15 ex_15 => ?_)
      refine zw_if (fun c4 => ?_) (fun c4 => ?_)
      · exact hback_6 _ (by (try dsimp only); (repeat' apply And.intro) <;> first | with_reducible assumption | ((try clear hj_5); (try clear hback_6); first | lia | grind [zu_at, zu_atL, zvn])) (by (try dsimp only); ((try clear hj_5); (try clear hback_6); first | lia | grind [zu_at, zu_atL, zvn])) (by (try dsimp only); ((try clear hj_5); (try clear hback_6); first | lia | grind [zu_at, zu_atL, zvn]))
      refine zw_zn (fun x_17 ex_17 => ?_)
      have hm := zmid ex_17 (by lia) (by grind) (by grind) (by grind) (by grind)
      refine zw_zb0 (sf_X3_addPart (s_6_7 s_6_0.toNatClampNeg) ((s_6_7 s_6_0.toNatClampNeg) + (x_17 / 2)) s_6_3 s_6_7 s_6_8 (by first | with_reducible assumption | exact ⟨by with_reducible assumption, by with_reducible assumption⟩ | ((try clear hj_5); (try clear hback_6); first | lia | grind [zu_at, zu_atL, zvn])) (by first | with_reducible assumption | exact ⟨by with_reducible assumption, by with_reducible assumption⟩ | ((try clear hj_5); (try clear hback_6); first | lia | grind [zu_at, zu_atL, zvn])) (by first | with_reducible assumption | exact ⟨by with_reducible assumption, by with_reducible assumption⟩ | ((try clear hj_5); (try clear hback_6); first | lia | grind [zu_at, zu_atL, zvn])) (by first | with_reducible assumption | exact ⟨by with_reducible assumption, by with_reducible assumption⟩ | ((try clear hj_5); (try clear hback_6); first | lia | grind [zu_at, zu_atL, zvn])) (by first | with_reducible assumption | exact ⟨by with_reducible assumption, by with_reducible assumption⟩ | ((try clear hj_5); (try clear hback_6); first | lia | grind [zu_at, zu_atL, zvn]))) (fun o_18 ho_18 => ?_)
      obtain ⟨o_18_0, o_18_1, o_18_2⟩ := o_18
      try dsimp only at ho_18
      obtain ⟨ho_18_0, ho_18_1, ho_18_2, ho_18_3, ho_18_4⟩ := ho_18
      refine zw_zb0 (sf_X3_addPart ((s_6_7 s_6_0.toNatClampNeg) + (x_17 / 2)) (s_6_8 s_6_0.toNatClampNeg) o_18_0 o_18_1 o_18_2 (by first | with_reducible assumption | exact ⟨by with_reducible assumption, by with_reducible assumption⟩ | ((try clear hj_5); (try clear hback_6); first | lia | grind [zu_at, zu_atL, zvn])) (by first | with_reducible assumption | exact ⟨by with_reducible assumption, by with_reducible assumption⟩ | ((try clear hj_5); (try clear hback_6); first | lia | grind [zu_at, zu_atL, zvn])) (by first | with_reducible assumption | exact ⟨by with_reducible assumption, by with_reducible assumption⟩ | ((try clear hj_5); (try clear hback_6); first | lia | grind [zu_at, zu_atL, zvn])) (by first | with_reducible assumption | exact ⟨by with_reducible assumption, by with_reducible assumption⟩ | ((try clear hj_5); (try clear hback_6); first | lia | grind [zu_at, zu_atL, zvn])) (by first | with_reducible assumption | exact ⟨by with_reducible assumption, by with_reducible assumption⟩ | ((try clear hj_5); (try clear hback_6); first | lia | grind [zu_at, zu_atL, zvn]))) (fun o_22 ho_22 => ?_)
      obtain ⟨o_22_0, o_22_1, o_22_2⟩ := o_22
      try dsimp only at ho_22
      obtain ⟨ho_22_0, ho_22_1, ho_22_2, ho_22_3, ho_22_4⟩ := ho_22
      clear hm
      exact hback_6 _ (by (try dsimp only); (repeat' apply And.intro) <;> first | with_reducible assumption | ((try clear hj_5); (try clear hback_6); first | lia | grind [zu_at, zu_atL, zvn])) (by (try dsimp only); ((try clear hj_5); (try clear hback_6); first | lia | grind [zu_at, zu_atL, zvn])) (by (try dsimp only); ((try clear hj_5); (try clear hback_6); first | lia | grind [zu_at, zu_atL, zvn]))
    exact hback_6 _ (by (try dsimp only); (repeat' apply And.intro) <;> first | with_reducible assumption | ((try clear hj_5); (try clear hback_6); first | lia | grind [zu_at, zu_atL, zvn])) (by (try dsimp only); ((try clear hj_5); (try clear hback_6); first | lia | grind [zu_at, zu_atL, zvn])) (by (try dsimp only); ((try clear hj_5); (try clear hback_6); first | lia | grind [zu_at, zu_atL, zvn]))
  refine zw_if (fun c5 => ?_) (fun c5 => ?_)
  · exact hj_5 _ (by first | exact True.intro | ((try dsimp only); (repeat' apply And.intro) <;> first | with_reducible assumption | ((try clear hj_5); (try clear hback_6); first | lia | grind [zu_at, zu_atL, zvn])))
  refine zw_zb0 (sf_X3_addPart 0 o_1_0 0 f6 f7 (by first | with_reducible assumption | exact ⟨by with_reducible assumption, by with_reducible assumption⟩ | ((try clear hj_5); (try clear hback_6); first | lia | grind [zu_at, zu_atL, zvn])) (by first | with_reducible assumption | exact ⟨by with_reducible assumption, by with_reducible assumption⟩ | ((try clear hj_5); (try clear hback_6); first | lia | grind [zu_at, zu_atL, zvn])) (by first | with_reducible assumption | exact ⟨by with_reducible assumption, by with_reducible assumption⟩ | ((try clear hj_5); (try clear hback_6); first | lia | grind [zu_at, zu_atL, zvn])) (by first | with_reducible assumption | exact ⟨by with_reducible assumption, by with_reducible assumption⟩ | ((try clear hj_5); (try clear hback_6); first | lia | grind [zu_at, zu_atL, zvn])) (by first | with_reducible assumption | exact ⟨by with_reducible assumption, by with_reducible assumption⟩ | ((try clear hj_5); (try clear hback_6); first | lia | grind [zu_at, zu_atL, zvn]))) (fun o_27 ho_27 => ?_)
  obtain ⟨o_27_0, o_27_1, o_27_2⟩ := o_27
  try dsimp only at ho_27
  obtain ⟨ho_27_0, ho_27_1, ho_27_2, ho_27_3, ho_27_4⟩ := ho_27
  exact hj_5 _ (by first | exact True.intro | ((try dsimp only); (repeat' apply And.intro) <;> first | with_reducible assumption | ((try clear hj_5); (try clear hback_6); first | lia | grind [zu_at, zu_atL, zvn])))
set_option maxHeartbeats 4000000 in
set_option maxRecDepth 100000 in
theorem sf_X3_goByHalves (v0_2 : Int32) (v0_3 : Int32) (v0_8 : Int32) (v0_10 : Int32) (v0_11 : Int32) (v1_0 : Int32) (v1_5 : Int32) (v2_0 : Int32) (v3_0 : Int32) (v3_2 : Int32) (f4 : Nat → Int32) (f5 : Nat → Int32) (f6 : Nat → Int32) (f7 : Nat → Int32) (v8_1 : Int32) (v8_2 : Int32) (f9 : Nat → Int32) (f10 : Nat → Int32) (f11 : Nat → Int32) (f12 : Nat → Int64) (f13 : Nat → Int32) (f15 : Nat → Int64) (f16 : Nat → Int64) (f17 : Nat → Int32) (f18 : Nat → Int32) (f19 : Nat → Int32) (f20 : Nat → Int32) (f21 : Nat → Int32) (f22 : Nat → Int32) (h_v0_2 : 0 ≤ v0_2 ∧ v0_2 ≤ 1) (h_v0_3 : 0 ≤ v0_3 ∧ v0_3 ≤ 1) (h_v0_8 : 0 ≤ v0_8 ∧ v0_8 ≤ 28) (h_v1_0 : 0 ≤ v1_0 ∧ v1_0 ≤ 4) (h_v2_0 : 0 ≤ v2_0 ∧ v2_0 ≤ 14) (h_v3_0 : 0 ≤ v3_0 ∧ v3_0 ≤ 14) (h_v3_2 : 0 ≤ v3_2 ∧ v3_2 ≤ 1) (h_f7 : (∀ i : Nat, 0 ≤ f7 i ∧ f7 i ≤ 1)) (h_f9 : (∀ i : Nat, 0 ≤ f9 i ∧ f9 i ≤ 13)) (h_f20 : (∀ i : Nat, 0 ≤ f20 i ∧ f20 i ≤ 13)) (h_f21 : (∀ i : Nat, 0 ≤ f21 i ∧ f21 i ≤ 14)) (h_f22 : (∀ i : Nat, 0 ≤ f22 i ∧ f22 i ≤ 14)) : zw (fn_X3_goByHalves v0_2 v0_3 v0_8 v0_10 v0_11 v1_0 v1_5 v2_0 v3_0 v3_2 f4 f5 f6 f7 v8_1 v8_2 f9 f10 f11 f12 f13 f15 f16 f17 f18 f19 f20 f21 f22) (fun r => 0 ≤ r.1 ∧ r.1 ≤ 1 ∧ 0 ≤ r.2.2.2.1 ∧ r.2.2.2.1 ≤ 1 ∧ 0 ≤ r.2.2.2.2.1 ∧ r.2.2.2.2.1 ≤ 1 ∧ 0 ≤ r.2.2.2.2.2.1 ∧ r.2.2.2.2.2.1 ≤ 28 ∧ (∀ i : Nat, 0 ≤ r.2.2.2.2.2.2.2.1 i ∧ r.2.2.2.2.2.2.2.1 i ≤ 1) ∧ (∀ i : Nat, 0 ≤ r.2.2.2.2.2.2.2.2.2.2.2.1 i ∧ r.2.2.2.2.2.2.2.2.2.2.2.1 i ≤ 13) ∧ (∀ i : Nat, 0 ≤ r.2.2.2.2.2.2.2.2.2.2.2.2.1 i ∧ r.2.2.2.2.2.2.2.2.2.2.2.2.1 i ≤ 14) ∧ (∀ i : Nat, 0 ≤ r.2.2.2.2.2.2.2.2.2.2.2.2.2 i ∧ r.2.2.2.2.2.2.2.2.2.2.2.2.2 i ≤ 14) ∧ r.1 ≤ r.2.2.2.1 ∧ r.1 ≤ r.2.2.2.2.1 ∧ r.1 ≤ v2_0 ∧ v0_2 ≤ r.2.2.2.1 ∧ (r.1 = 0 → r.1 ≤ v0_2 ∧ r.1 ≤ v0_3 ∧ r.2.2.2.2.1 ≤ v0_3) ∧ (¬ r.1 = 0 → 1 ≤ r.2.2.2.1 ∧ 1 ≤ v2_0 ∧ v3_2 ≤ 0 ∧ r.2.2.2.2.1 ≤ r.1 ∧ v0_3 ≤ r.1) ∧ (r.1 = 1 → 1 ≤ r.2.2.2.1 ∧ 1 ≤ v2_0 ∧ v3_2 ≤ 0 ∧ r.2.2.2.2.1 ≤ r.1 ∧ v0_3 ≤ r.1) ∧ (¬ r.1 = 1 → r.1 ≤ v0_2 ∧ r.1 ≤ v0_3 ∧ r.2.2.2.2.1 ≤ v0_3)) := by
  unfold fn_X3_goByHalves
  refine zw_zb0 (sf_X9_hasChoice v2_0 v3_2 (by first | with_reducible assumption | exact ⟨by with_reducible assumption, by with_reducible assumption⟩ | first | lia | grind [zu_at, zu_atL, zvn]) (by first | with_reducible assumption | exact ⟨by with_reducible assumption, by with_reducible assumption⟩ | first | lia | grind [zu_at, zu_atL, zvn])) (fun o_1 ho_1 => ?_)
  obtain ⟨ho_1_0, ho_1_1, ho_1_2, ho_1_3, ho_1_4, ho_1_5, ho_1_6⟩ := ho_1
  refine zw_if (fun c1 => ?_) (fun c1 => ?_)
  · refine zw_some ?_
    first | exact True.intro | ((try dsimp only); (repeat' apply And.intro) <;> first | with_reducible assumption | first | lia | grind [zu_at, zu_atL, zvn])
  refine zw_if (fun c2 => ?_) (fun c2 => ?_)
  · refine zw_zb0 (sf_X9_finestFormat v1_0 f4 (by first | with_reducible assumption | exact ⟨by with_reducible assumption, by with_reducible assumption⟩ | first | lia | grind [zu_at, zu_atL, zvn])) (fun o_7 ho_7 => ?_)
    obtain ⟨ho_7_0, ho_7_1, ho_7_2⟩ := ho_7
    refine zw_zb0 (sf_X2_fillFree o_7 v3_0 f5 f6 (by first | with_reducible assumption | exact ⟨by with_reducible assumption, by with_reducible assumption⟩ | first | lia | grind [zu_at, zu_atL, zvn])) (fun o_11 ho_11 => ?_)
    refine zw_zl32 (fun s_15 => (∀ i : Nat, 0 ≤ s_15.2 i ∧ s_15.2 i ≤ 1) ∧ 0 ≤ s_15.1 ∧ s_15.1 ≤ 14) (fun s_15 => 14 - s_15.1) (by (try dsimp only); (repeat' apply And.intro) <;> first | with_reducible assumption | first | lia | grind [zu_at, zu_atL, zvn]) (by (try dsimp only); first | lia | grind [zu_at, zu_atL, zvn]) (fun s_15 back_15 Hback_15 hback_15 => ?_)
    obtain ⟨s_15_0, s_15_1⟩ := s_15
    try dsimp only at Hback_15 hback_15
    obtain ⟨Hback_15_0, Hback_15_1, Hback_15_2⟩ := Hback_15
    refine zw_if (fun c3 => ?_) (fun c3 => ?_)
    · refine zw_zb0 (sf_X7_reckon v1_0 v2_0 f9 o_11 f4 f10 f11 f12 f13 f15 f16 f17 f18 (by first | with_reducible assumption | exact ⟨by with_reducible assumption, by with_reducible assumption⟩ | ((try clear hback_15); first | lia | grind [zu_at, zu_atL, zvn])) (by first | with_reducible assumption | exact ⟨by with_reducible assumption, by with_reducible assumption⟩ | ((try clear hback_15); first | lia | grind [zu_at, zu_atL, zvn])) (by first | with_reducible assumption | exact ⟨by with_reducible assumption, by with_reducible assumption⟩ | ((try clear hback_15); first | lia | grind [zu_at, zu_atL, zvn]))) (fun o_17 ho_17 => ?_)
      obtain ⟨o_17_0, o_17_1, o_17_2, o_17_3⟩ := o_17
      try dsimp only at ho_17
      obtain ⟨ho_17_0, ho_17_1, ho_17_2, ho_17_3, ho_17_4, ho_17_5, ho_17_6, ho_17_7, ho_17_8, ho_17_9, ho_17_10, ho_17_11⟩ := ho_17
      refine zw_zb0 (sf_X9_priceOf v1_0 v1_5 v2_0 f11 f9 o_11 f19 (by first | with_reducible assumption | exact ⟨by with_reducible assumption, by with_reducible assumption⟩ | ((try clear hback_15); first | lia | grind [zu_at, zu_atL, zvn])) (by first | with_reducible assumption | exact ⟨by with_reducible assumption, by with_reducible assumption⟩ | ((try clear hback_15); first | lia | grind [zu_at, zu_atL, zvn])) (by first | with_reducible assumption | exact ⟨by with_reducible assumption, by with_reducible assumption⟩ | ((try clear hback_15); first | lia | grind [zu_at, zu_atL, zvn]))) (fun o_21 ho_21 => ?_)
      refine zw_zl32 (fun s_25 => (∀ i : Nat, 0 ≤ s_25.2.2.2.2.2.2.1 i ∧ s_25.2.2.2.2.2.2.1 i ≤ 1) ∧ (∀ i : Nat, 0 ≤ s_25.2.2.2.2.2.2.2.1 i ∧ s_25.2.2.2.2.2.2.2.1 i ≤ 13) ∧ (∀ i : Nat, 0 ≤ s_25.2.2.2.2.2.2.2.2.1 i ∧ s_25.2.2.2.2.2.2.2.2.1 i ≤ 14) ∧ (∀ i : Nat, 0 ≤ s_25.2.2.2.2.2.2.2.2.2.1 i ∧ s_25.2.2.2.2.2.2.2.2.2.1 i ≤ 14) ∧ 0 ≤ s_25.1 ∧ s_25.1 ≤ 4 ∧ 0 ≤ s_25.2.2.2.1 ∧ s_25.2.2.2.1 ≤ 28 ∧ s_25.1 ≤ v1_0 ∧ s_25.1 ≤ o_17_0 + 3) (fun s_25 => 4 - s_25.1) (by (try dsimp only); (repeat' apply And.intro) <;> first | with_reducible assumption | ((try clear hback_15); first | lia | grind [zu_at, zu_atL, zvn])) (by (try dsimp only); ((try clear hback_15); first | lia | grind [zu_at, zu_atL, zvn])) (fun s_25 back_25 Hback_25 hback_25 => ?_)
      obtain ⟨s_25_0, s_25_1, s_25_2, s_25_3, s_25_4, s_25_5, s_25_6, s_25_7, s_25_8, s_25_9, s_25_10, s_25_11⟩ := s_25
      try dsimp only at Hback_25 hback_25
      obtain ⟨Hback_25_0, Hback_25_1, Hback_25_2, Hback_25_3, Hback_25_4, Hback_25_5, Hback_25_6, Hback_25_7, Hback_25_8, Hback_25_9⟩ := Hback_25
      refine zw_if (fun c4 => ?_) (fun c4 => ?_)
      · refine zw_zt (by (try dsimp only); ((try clear hback_15); (try clear hback_25); first | lia | grind [zu_at, zu_atL, zvn])) ?_
        refine zw_some ?_
        first | exact True.intro | ((try dsimp only); (repeat' apply And.intro) <;> first | with_reducible assumption | ((try clear hback_15); (try clear hback_25); first | lia | grind [zu_at, zu_atL, zvn]))
      refine zw_if (fun c5 => ?_) (fun c5 => ?_)
      · refine zw_zt (by (try dsimp only); ((try clear hback_15); (try clear hback_25); first | lia | grind [zu_at, zu_atL, zvn])) ?_
        refine zw_some ?_
        first | exact True.intro | ((try dsimp only); (repeat' apply And.intro) <;> first | with_reducible assumption | ((try clear hback_15); (try clear hback_25); first | lia | grind [zu_at, zu_atL, zvn]))
      refine zw_if (fun c6 => ?_) (fun c6 => ?_)
      · exact hback_25 _ (by (try dsimp only); (repeat' apply And.intro) <;> first | with_reducible assumption | ((try clear hback_15); (try clear hback_25); first | lia | grind [zu_at, zu_atL, zvn])) (by (try dsimp only); ((try clear hback_15); (try clear hback_25); first | lia | grind [zu_at, zu_atL, zvn])) (by (try dsimp only); ((try clear hback_15); (try clear hback_25); first | lia | grind [zu_at, zu_atL, zvn]))
      refine zw_zb0 (sf_X3_halveWith s_25_0 o_7 s_25_1 s_25_2 v1_0 v1_5 v3_0 f6 s_25_6 s_25_7 s_25_8 s_25_9 s_25_10 v2_0 f11 f9 f19 s_25_4 s_25_5 f4 f10 s_25_11 f13 f15 f16 f17 f18 (by first | with_reducible assumption | exact ⟨by with_reducible assumption, by with_reducible assumption⟩ | ((try clear hback_15); (try clear hback_25); first | lia | grind [zu_at, zu_atL, zvn])) (by first | with_reducible assumption | exact ⟨by with_reducible assumption, by with_reducible assumption⟩ | ((try clear hback_15); (try clear hback_25); first | lia | grind [zu_at, zu_atL, zvn])) (by first | with_reducible assumption | exact ⟨by with_reducible assumption, by with_reducible assumption⟩ | ((try clear hback_15); (try clear hback_25); first | lia | grind [zu_at, zu_atL, zvn])) (by first | with_reducible assumption | exact ⟨by with_reducible assumption, by with_reducible assumption⟩ | ((try clear hback_15); (try clear hback_25); first | lia | grind [zu_at, zu_atL, zvn])) (by first | with_reducible assumption | exact ⟨by with_reducible assumption, by with_reducible assumption⟩ | ((try clear hback_15); (try clear hback_25); first | lia | grind [zu_at, zu_atL, zvn])) (by first | with_reducible assumption | exact ⟨by with_reducible assumption, by with_reducible assumption⟩ | ((try clear hback_15); (try clear hback_25); first | lia | grind [zu_at, zu_atL, zvn])) (by first | with_reducible assumption | exact ⟨by with_reducible assumption, by with_reducible assumption⟩ | ((try clear hback_15); (try clear hback_25); first | lia | grind [zu_at, zu_atL, zvn])) (by first | with_reducible assumption | exact ⟨by with_reducible assumption, by with_reducible assumption⟩ | ((try clear hback_15); (try clear hback_25); first | lia | grind [zu_at, zu_atL, zvn]))) (fun o_31 ho_31 => ?_)
      obtain ⟨o_31_0, o_31_1, o_31_2, o_31_3, o_31_4, o_31_5, o_31_6, o_31_7, o_31_8, o_31_9, o_31_10⟩ := o_31
      try dsimp only at ho_31
      obtain ⟨ho_31_0, ho_31_1, ho_31_2, ho_31_3, ho_31_4, ho_31_5⟩ := ho_31
      exact hback_25 _ (by (try dsimp only); (repeat' apply And.intro) <;> first | with_reducible assumption | ((try clear hback_15); (try clear hback_25); first | lia | grind [zu_at, zu_atL, zvn])) (by (try dsimp only); ((try clear hback_15); (try clear hback_25); first | lia | grind [zu_at, zu_atL, zvn])) (by (try dsimp only); ((try clear hback_15); (try clear hback_25); first | lia | grind [zu_at, zu_atL, zvn]))
    refine zw_zg32 14 (by decide) (by (try dsimp only); ((try clear hback_15); (try clear hback_25); first | lia | grind [zu_at, zu_atL, zvn])) ?_
    exact hback_15 _ (by (try dsimp only); (repeat' apply And.intro) <;> first | with_reducible assumption | ((try clear hback_15); (try clear hback_25); first | lia | grind [zu_at, zu_atL, zvn])) (by (try dsimp only); ((try clear hback_15); (try clear hback_25); first | lia | grind [zu_at, zu_atL, zvn])) (by (try dsimp only); ((try clear hback_15); (try clear hback_25); first | lia | grind [zu_at, zu_atL, zvn]))
  refine zw_zt (by (try dsimp only); ((try clear hback_15); (try clear hback_25); first | lia | grind [zu_at, zu_atL, zvn])) ?_
  refine zw_some ?_
  first | exact True.intro | ((try dsimp only); (repeat' apply And.intro) <;> first | with_reducible assumption | ((try clear hback_15); (try clear hback_25); first | lia | grind [zu_at, zu_atL, zvn]))
set_option maxHeartbeats 4000000 in
set_option maxRecDepth 100000 in
theorem sf_X11_copyChoice (f0 : Nat → Int32) (f1 : Nat → Int32) : zw (fn_X11_copyChoice f0 f1) (fun r => True) := by
  unfold fn_X11_copyChoice
  refine zw_zl32 (fun s_1 => 0 ≤ s_1.1 ∧ s_1.1 ≤ 14) (fun s_1 => 14 - s_1.1) (by (try dsimp only); (repeat' apply And.intro) <;> first | with_reducible assumption | first | lia | grind [zu_at, zu_atL, zvn]) (by (try dsimp only); first | lia | grind [zu_at, zu_atL, zvn]) (fun s_1 back_1 Hback_1 hback_1 => ?_)
  obtain ⟨s_1_0, s_1_1⟩ := s_1
  try dsimp only at Hback_1 hback_1
  obtain ⟨Hback_1_0, Hback_1_1⟩ := Hback_1
  refine zw_if (fun c1 => ?_) (fun c1 => ?_)
  · refine zw_some ?_
    first | exact True.intro | ((try dsimp only); (repeat' apply And.intro) <;> first | with_reducible assumption | ((try clear hback_1); first | lia | grind [zu_at, zu_atL, zvn]))
  refine zw_if (fun c2 => ?_) (fun c2 => ?_)
  · refine zw_some ?_
    first | exact True.intro | ((try dsimp only); (repeat' apply And.intro) <;> first | with_reducible assumption | ((try clear hback_1); first | lia | grind [zu_at, zu_atL, zvn]))
  refine zw_if (fun c3 => ?_) (fun c3 => ?_)
  · refine zw_some ?_
    first | exact True.intro | ((try dsimp only); (repeat' apply And.intro) <;> first | with_reducible assumption | ((try clear hback_1); first | lia | grind [zu_at, zu_atL, zvn]))
  refine zw_zg32 14 (by decide) (by (try dsimp only); ((try clear hback_1); first | lia | grind [zu_at, zu_atL, zvn])) ?_
  exact hback_1 _ (by (try dsimp only); (repeat' apply And.intro) <;> first | with_reducible assumption | ((try clear hback_1); first | lia | grind [zu_at, zu_atL, zvn])) (by (try dsimp only); ((try clear hback_1); first | lia | grind [zu_at, zu_atL, zvn])) (by (try dsimp only); ((try clear hback_1); first | lia | grind [zu_at, zu_atL, zvn]))
set_option maxHeartbeats 4000000 in
set_option maxRecDepth 100000 in
theorem sf_X3_lookAround (f1 : Nat → Int32) (f2 : Nat → Int32) (v3_0 : Int32) (v3_5 : Int32) (v4_0 : Int32) (f5 : Nat → Int32) (v6_0 : Int32) (f7 : Nat → Int32) (f8 : Nat → Int32) (f9 : Nat → Int32) (v10_1 : Int32) (v10_2 : Int32) (f11 : Nat → Int32) (f12 : Nat → Int32) (f13 : Nat → Int64) (f14 : Nat → Int32) (f16 : Nat → Int64) (f17 : Nat → Int64) (f18 : Nat → Int32) (f19 : Nat → Int32) (h_v3_0 : 0 ≤ v3_0 ∧ v3_0 ≤ 4) (h_v4_0 : 0 ≤ v4_0 ∧ v4_0 ≤ 14) (h_v6_0 : 0 ≤ v6_0 ∧ v6_0 ≤ 14) (h_f7 : (∀ i : Nat, 0 ≤ f7 i ∧ f7 i ≤ 13)) : zw (fn_X3_lookAround f1 f2 v3_0 v3_5 v4_0 f5 v6_0 f7 f8 f9 v10_1 v10_2 f11 f12 f13 f14 f16 f17 f18 f19) (fun r => (-1) ≤ r.2.2.1 ∧ r.2.2.1 ≤ 13 ∧ (-1) ≤ r.2.2.2.1 ∧ r.2.2.2.1 ≤ 3 ∧ r.2.2.1 < v6_0 ∧ r.2.2.2.1 < v3_0 ∧ r.2.2.2.1 ≤ r.2.2.1 + 3) := by
  unfold fn_X3_lookAround
  refine zw_zb0 (sf_X11_copyChoice f1 f2) (fun o_1 ho_1 => ?_)
  refine zw_zb0 (sf_X9_priceOf v3_0 v3_5 v4_0 f5 f7 f1 f8 (by first | with_reducible assumption | exact ⟨by with_reducible assumption, by with_reducible assumption⟩ | first | lia | grind [zu_at, zu_atL, zvn]) (by first | with_reducible assumption | exact ⟨by with_reducible assumption, by with_reducible assumption⟩ | first | lia | grind [zu_at, zu_atL, zvn]) (by first | with_reducible assumption | exact ⟨by with_reducible assumption, by with_reducible assumption⟩ | first | lia | grind [zu_at, zu_atL, zvn])) (fun o_5 ho_5 => ?_)
  refine zw_zl32 (fun s_9 => 0 ≤ s_9.2.1 ∧ s_9.2.1 ≤ 14 ∧ (-1) ≤ s_9.2.2.2.2.1 ∧ s_9.2.2.2.2.1 ≤ 13 ∧ (-1) ≤ s_9.2.2.2.2.2.1 ∧ s_9.2.2.2.2.2.1 ≤ 3 ∧ s_9.1 ≤ o_5 ∧ s_9.2.1 ≤ v6_0 ∧ s_9.2.2.2.2.1 < v6_0 ∧ s_9.2.2.2.2.2.1 < v3_0 ∧ s_9.2.2.2.2.1 < s_9.2.1 ∧ s_9.2.2.2.2.2.1 ≤ v6_0 + 2 ∧ s_9.2.2.2.2.2.1 ≤ s_9.2.1 + 2 ∧ s_9.2.2.2.2.2.1 ≤ s_9.2.2.2.2.1 + 3) (fun s_9 => 14 - s_9.2.1) (by (try dsimp only); (repeat' apply And.intro) <;> first | with_reducible assumption | first | lia | grind [zu_at, zu_atL, zvn]) (by (try dsimp only); first | lia | grind [zu_at, zu_atL, zvn]) (fun s_9 back_9 Hback_9 hback_9 => ?_)
  obtain ⟨s_9_0, s_9_1, s_9_2, s_9_3, s_9_4, s_9_5, s_9_6, s_9_7, s_9_8, s_9_9⟩ := s_9
  try dsimp only at Hback_9 hback_9
  obtain ⟨Hback_9_0, Hback_9_1, Hback_9_2, Hback_9_3, Hback_9_4, Hback_9_5, Hback_9_6, Hback_9_7, Hback_9_8, Hback_9_9, Hback_9_10, Hback_9_11, Hback_9_12, Hback_9_13⟩ := Hback_9
  refine zw_if (fun c1 => ?_) (fun c1 => ?_)
  · refine zw_some ?_
    first | exact True.intro | ((try dsimp only); (repeat' apply And.intro) <;> first | with_reducible assumption | ((try clear hback_9); first | lia | grind [zu_at, zu_atL, zvn]))
  refine zw_zl32 (fun s_11 => 0 ≤ s_11.2.1 ∧ s_11.2.1 ≤ 4 ∧ (-1) ≤ s_11.2.2.2.2.1 ∧ s_11.2.2.2.2.1 ≤ 13 ∧ (-1) ≤ s_11.2.2.2.2.2.1 ∧ s_11.2.2.2.2.2.1 ≤ 3 ∧ s_11.1 ≤ o_5 ∧ s_11.1 ≤ s_9_0 ∧ s_11.2.1 ≤ v3_0 ∧ s_11.2.2.2.2.1 < v6_0 ∧ s_11.2.2.2.2.2.1 < v3_0 ∧ s_11.2.2.2.2.1 ≤ s_9_1 ∧ s_9_4 ≤ s_11.2.2.2.2.1 ∧ s_11.2.2.2.2.2.1 ≤ s_11.2.2.2.2.1 + 3 ∧ s_9_5 ≤ s_11.2.2.2.2.2.1 + 3) (fun s_11 => 4 - s_11.2.1) (by (try dsimp only); (repeat' apply And.intro) <;> first | with_reducible assumption | ((try clear hback_9); first | lia | grind [zu_at, zu_atL, zvn])) (by (try dsimp only); ((try clear hback_9); first | lia | grind [zu_at, zu_atL, zvn])) (fun s_11 back_11 Hback_11 hback_11 => ?_)
  obtain ⟨s_11_0, s_11_1, s_11_2, s_11_3, s_11_4, s_11_5, s_11_6, s_11_7, s_11_8, s_11_9⟩ := s_11
  try dsimp only at Hback_11 hback_11
  obtain ⟨Hback_11_0, Hback_11_1, Hback_11_2, Hback_11_3, Hback_11_4, Hback_11_5, Hback_11_6, Hback_11_7, Hback_11_8, Hback_11_9, Hback_11_10, Hback_11_11, Hback_11_12, Hback_11_13, Hback_11_14⟩ := Hback_11
  refine zw_zg32 14 (by decide) (by (try dsimp only); ((try clear hback_9); (try clear hback_11); first | lia | grind [zu_at, zu_atL, zvn])) ?_
  refine zw_zj (fun _ => True) (fun s_13 Hj_13 => ?_) (fun j_13 hj_13 => ?_)
  · refine zw_zg32 14 (by decide) (by (try dsimp only); ((try clear hback_9); (try clear hback_11); (try clear hj_13); first | lia | grind [zu_at, zu_atL, zvn])) ?_
    refine zw_zn1 ?_
    exact hback_9 _ (by (try dsimp only); (repeat' apply And.intro) <;> first | with_reducible assumption | ((try clear hback_9); (try clear hback_11); (try clear hj_13); first | lia | grind [zu_at, zu_atL, zvn])) (by (try dsimp only); ((try clear hback_9); (try clear hback_11); (try clear hj_13); first | lia | grind [zu_at, zu_atL, zvn])) (by (try dsimp only); ((try clear hback_9); (try clear hback_11); (try clear hj_13); first | lia | grind [zu_at, zu_atL, zvn]))
  refine zw_if (fun c2 => ?_) (fun c2 => ?_)
  · refine zw_if (fun c3 => ?_) (fun c3 => ?_)
    · exact hj_13 _ (by first | exact True.intro | ((try dsimp only); (repeat' apply And.intro) <;> first | with_reducible assumption | ((try clear hback_9); (try clear hback_11); (try clear hj_13); first | lia | grind [zu_at, zu_atL, zvn])))
    refine zw_if (fun c4 => ?_) (fun c4 => ?_)
    · exact hback_11 _ (by (try dsimp only); (repeat' apply And.intro) <;> first | with_reducible assumption | ((try clear hback_9); (try clear hback_11); (try clear hj_13); first | lia | grind [zu_at, zu_atL, zvn])) (by (try dsimp only); ((try clear hback_9); (try clear hback_11); (try clear hj_13); first | lia | grind [zu_at, zu_atL, zvn])) (by (try dsimp only); ((try clear hback_9); (try clear hback_11); (try clear hj_13); first | lia | grind [zu_at, zu_atL, zvn]))
    refine zw_zb0 (sf_X7_reckon v3_0 v4_0 f7 (upd s_11_8 s_9_1.toNatClampNeg s_11_1) f11 f12 f5 s_11_9 f14 f16 f17 f18 f19 (by first | with_reducible assumption | exact ⟨by with_reducible assumption, by with_reducible assumption⟩ | ((try clear hback_9); (try clear hback_11); (try clear hj_13); first | lia | grind [zu_at, zu_atL, zvn])) (by first | with_reducible assumption | exact ⟨by with_reducible assumption, by with_reducible assumption⟩ | ((try clear hback_9); (try clear hback_11); (try clear hj_13); first | lia | grind [zu_at, zu_atL, zvn])) (by first | with_reducible assumption | exact ⟨by with_reducible assumption, by with_reducible assumption⟩ | ((try clear hback_9); (try clear hback_11); (try clear hj_13); first | lia | grind [zu_at, zu_atL, zvn]))) (fun o_19 ho_19 => ?_)
    obtain ⟨o_19_0, o_19_1, o_19_2, o_19_3⟩ := o_19
    try dsimp only at ho_19
    obtain ⟨ho_19_0, ho_19_1, ho_19_2, ho_19_3, ho_19_4, ho_19_5, ho_19_6, ho_19_7, ho_19_8, ho_19_9, ho_19_10, ho_19_11⟩ := ho_19
    refine zw_if (fun c5 => ?_) (fun c5 => ?_)
    · exact hback_11 _ (by (try dsimp only); (repeat' apply And.intro) <;> first | with_reducible assumption | ((try clear hback_9); (try clear hback_11); (try clear hj_13); first | lia | grind [zu_at, zu_atL, zvn])) (by (try dsimp only); ((try clear hback_9); (try clear hback_11); (try clear hj_13); first | lia | grind [zu_at, zu_atL, zvn])) (by (try dsimp only); ((try clear hback_9); (try clear hback_11); (try clear hj_13); first | lia | grind [zu_at, zu_atL, zvn]))
    refine zw_zb0 (sf_X9_priceOf v3_0 v3_5 v4_0 f5 f7 (upd s_11_8 s_9_1.toNatClampNeg s_11_1) f8 (by first | with_reducible assumption | exact ⟨by with_reducible assumption, by with_reducible assumption⟩ | ((try clear hback_9); (try clear hback_11); (try clear hj_13); first | lia | grind [zu_at, zu_atL, zvn])) (by first | with_reducible assumption | exact ⟨by with_reducible assumption, by with_reducible assumption⟩ | ((try clear hback_9); (try clear hback_11); (try clear hj_13); first | lia | grind [zu_at, zu_atL, zvn])) (by first | with_reducible assumption | exact ⟨by with_reducible assumption, by with_reducible assumption⟩ | ((try clear hback_9); (try clear hback_11); (try clear hj_13); first | lia | grind [zu_at, zu_atL, zvn]))) (fun o_24 ho_24 => ?_)
    refine zw_zj (fun s_28 => 0 ≤ s_28 ∧ s_28 ≤ 1) (fun s_28 Hj_28 => ?_) (fun j_28 hj_28 => ?_)
    · obtain ⟨Hj_28_0, Hj_28_1⟩ := Hj_28
      refine zw_if (fun c6 => ?_) (fun c6 => ?_)
      · exact hback_11 _ (by (try dsimp only); (repeat' apply And.intro) <;> first | with_reducible assumption | ((try clear hback_9); (try clear hback_11); (try clear hj_13); (try clear hj_28); first | lia | grind [zu_at, zu_atL, zvn])) (by (try dsimp only); ((try clear hback_9); (try clear hback_11); (try clear hj_13); (try clear hj_28); first | lia | grind [zu_at, zu_atL, zvn])) (by (try dsimp only); ((try clear hback_9); (try clear hback_11); (try clear hj_13); (try clear hj_28); first | lia | grind [zu_at, zu_atL, zvn]))
      exact hback_11 _ (by (try dsimp only); (repeat' apply And.intro) <;> first | with_reducible assumption | ((try clear hback_9); (try clear hback_11); (try clear hj_13); (try clear hj_28); first | lia | grind [zu_at, zu_atL, zvn])) (by (try dsimp only); ((try clear hback_9); (try clear hback_11); (try clear hj_13); (try clear hj_28); first | lia | grind [zu_at, zu_atL, zvn])) (by (try dsimp only); ((try clear hback_9); (try clear hback_11); (try clear hj_13); (try clear hj_28); first | lia | grind [zu_at, zu_atL, zvn]))
    refine zw_if (fun c7 => ?_) (fun c7 => ?_)
    · exact hj_28 _ (by first | exact True.intro | ((try dsimp only); (repeat' apply And.intro) <;> first | with_reducible assumption | ((try clear hback_9); (try clear hback_11); (try clear hj_13); (try clear hj_28); first | lia | grind [zu_at, zu_atL, zvn])))
    exact hj_28 _ (by first | exact True.intro | ((try dsimp only); (repeat' apply And.intro) <;> first | with_reducible assumption | ((try clear hback_9); (try clear hback_11); (try clear hj_13); (try clear hj_28); first | lia | grind [zu_at, zu_atL, zvn])))
  exact hj_13 _ (by first | exact True.intro | ((try dsimp only); (repeat' apply And.intro) <;> first | with_reducible assumption | ((try clear hback_9); (try clear hback_11); (try clear hj_13); (try clear hj_28); first | lia | grind [zu_at, zu_atL, zvn])))
set_option maxHeartbeats 4000000 in
set_option maxRecDepth 100000 in
theorem sf_X4_prepare (p1 : Int32) (p2 : Int32) (p3 : Int32) (v0_0 : Int32) (f1 : Nat → Int32) (f2 : Nat → Int32) (h_v0_0 : 0 ≤ v0_0 ∧ v0_0 ≤ 14) : zw (fn_X4_prepare p1 p2 p3 v0_0 f1 f2) (fun r => True) := by
  unfold fn_X4_prepare
  refine zw_if (fun c1 => ?_) (fun c1 => ?_)
  · refine zw_some ?_
    first | exact True.intro | ((try dsimp only); (repeat' apply And.intro) <;> first | with_reducible assumption | first | lia | grind [zu_at, zu_atL, zvn])
  refine zw_zj (fun _ => 0 ≤ p1 ∧ p1 ≤ 1) (fun s_2 Hj_2 => ?_) (fun j_2 hj_2 => ?_)
  · obtain ⟨Hj_2_0, Hj_2_1⟩ := Hj_2
    refine zw_zg32 28 (by decide) (by (try dsimp only); ((try clear hj_2); first | lia | grind [zu_at, zu_atL, zvn])) ?_
    refine zw_some ?_
    first | exact True.intro | ((try dsimp only); (repeat' apply And.intro) <;> first | with_reducible assumption | ((try clear hj_2); first | lia | grind [zu_at, zu_atL, zvn]))
  refine zw_if (fun c2 => ?_) (fun c2 => ?_)
  · exact hj_2 _ (by first | exact True.intro | ((try dsimp only); (repeat' apply And.intro) <;> first | with_reducible assumption | ((try clear hj_2); first | lia | grind [zu_at, zu_atL, zvn])))
  refine zw_if (fun c3 => ?_) (fun c3 => ?_)
  · exact hj_2 _ (by first | exact True.intro | ((try dsimp only); (repeat' apply And.intro) <;> first | with_reducible assumption | ((try clear hj_2); first | lia | grind [zu_at, zu_atL, zvn])))
  refine zw_some ?_
  first | exact True.intro | ((try dsimp only); (repeat' apply And.intro) <;> first | with_reducible assumption | ((try clear hj_2); first | lia | grind [zu_at, zu_atL, zvn]))
set_option maxHeartbeats 4000000 in
set_option maxRecDepth 100000 in
theorem sf_X4_letsOf (p1 : Int32) (v0_0 : Int32) (f1 : Nat → Int32) (f2 : Nat → Int32) (h_p1 : 0 ≤ p1 ∧ p1 ≤ 1) (h_v0_0 : 0 ≤ v0_0 ∧ v0_0 ≤ 13) : zw (fn_X4_letsOf p1 v0_0 f1 f2) (fun r => True) := by
  unfold fn_X4_letsOf
  refine zw_zg32 28 (by decide) (by (try dsimp only); first | lia | grind [zu_at, zu_atL, zvn]) ?_
  refine zw_if (fun c1 => ?_) (fun c1 => ?_)
  · refine zw_some ?_
    first | exact True.intro | ((try dsimp only); (repeat' apply And.intro) <;> first | with_reducible assumption | first | lia | grind [zu_at, zu_atL, zvn])
  refine zw_if (fun c2 => ?_) (fun c2 => ?_)
  · refine zw_some ?_
    first | exact True.intro | ((try dsimp only); (repeat' apply And.intro) <;> first | with_reducible assumption | first | lia | grind [zu_at, zu_atL, zvn])
  refine zw_zg32 14 (by decide) (by (try dsimp only); first | lia | grind [zu_at, zu_atL, zvn]) ?_
  refine zw_some ?_
  first | exact True.intro | ((try dsimp only); (repeat' apply And.intro) <;> first | with_reducible assumption | first | lia | grind [zu_at, zu_atL, zvn])
set_option maxHeartbeats 4000000 in
set_option maxRecDepth 100000 in
theorem sf_X4_add (p1 : Int32) (p2 : Int32) (v0_0 : Int32) (v0_1 : Int32) (f1 : Nat → Int32) (f2 : Nat → Int32) (f3 : Nat → Int32) (f4 : Nat → Int32) (f5 : Nat → Int32) (f6 : Nat → Int32) (f7 : Nat → Int32) (h_v0_0 : 0 ≤ v0_0 ∧ v0_0 ≤ 14) : zw (fn_X4_add p1 p2 v0_0 v0_1 f1 f2 f3 f4 f5 f6 f7) (fun r => 0 ≤ r.1 ∧ r.1 ≤ 14 ∧ 1 ≤ r.1) := by
  unfold fn_X4_add
  refine zw_if (fun c1 => ?_) (fun c1 => ?_)
  · refine zw_zg32 14 (by decide) (by (try dsimp only); first | lia | grind [zu_at, zu_atL, zvn]) ?_
    refine zw_zj (fun s_3 => True) (fun s_3 Hj_3 => ?_) (fun j_3 hj_3 => ?_)
    · refine zw_zg32 14 (by decide) (by (try dsimp only); ((try clear hj_3); first | lia | grind [zu_at, zu_atL, zvn])) ?_
      refine zw_zj (fun s_5 => 0 ≤ s_5 ∧ s_5 ≤ 1) (fun s_5 Hj_5 => ?_) (fun j_5 hj_5 => ?_)
      · obtain ⟨Hj_5_0, Hj_5_1⟩ := Hj_5
        refine zw_some ?_
        first | exact True.intro | ((try dsimp only); (repeat' apply And.intro) <;> first | with_reducible assumption | ((try clear hj_3); (try clear hj_5); first | lia | grind [zu_at, zu_atL, zvn]))
      refine zw_if (fun c2 => ?_) (fun c2 => ?_)
      · exact hj_5 _ (by first | exact True.intro | ((try dsimp only); (repeat' apply And.intro) <;> first | with_reducible assumption | ((try clear hj_3); (try clear hj_5); first | lia | grind [zu_at, zu_atL, zvn])))
      exact hj_5 _ (by first | exact True.intro | ((try dsimp only); (repeat' apply And.intro) <;> first | with_reducible assumption | ((try clear hj_3); (try clear hj_5); first | lia | grind [zu_at, zu_atL, zvn])))
    refine zw_if (fun c3 => ?_) (fun c3 => ?_)
    · exact hj_3 _ (by first | exact True.intro | ((try dsimp only); (repeat' apply And.intro) <;> first | with_reducible assumption | ((try clear hj_3); (try clear hj_5); first | lia | grind [zu_at, zu_atL, zvn])))
    refine zw_zb0 (sf_X4_letsOf 0 v0_0 f6 f7 (by first | with_reducible assumption | exact ⟨by with_reducible assumption, by with_reducible assumption⟩ | ((try clear hj_3); (try clear hj_5); first | lia | grind [zu_at, zu_atL, zvn])) (by first | with_reducible assumption | exact ⟨by with_reducible assumption, by with_reducible assumption⟩ | ((try clear hj_3); (try clear hj_5); first | lia | grind [zu_at, zu_atL, zvn]))) (fun o_8 ho_8 => ?_)
    refine zw_zb0 (sf_X4_letsOf 1 v0_0 f6 f7 (by first | with_reducible assumption | exact ⟨by with_reducible assumption, by with_reducible assumption⟩ | ((try clear hj_3); (try clear hj_5); first | lia | grind [zu_at, zu_atL, zvn])) (by first | with_reducible assumption | exact ⟨by with_reducible assumption, by with_reducible assumption⟩ | ((try clear hj_3); (try clear hj_5); first | lia | grind [zu_at, zu_atL, zvn]))) (fun o_12 ho_12 => ?_)
    exact hj_3 _ (by first | exact True.intro | ((try dsimp only); (repeat' apply And.intro) <;> first | with_reducible assumption | ((try clear hj_3); (try clear hj_5); first | lia | grind [zu_at, zu_atL, zvn])))
  refine zw_some ?_
  first | exact True.intro | ((try dsimp only); (repeat' apply And.intro) <;> first | with_reducible assumption | ((try clear hj_3); (try clear hj_5); first | lia | grind [zu_at, zu_atL, zvn]))
set_option maxHeartbeats 4000000 in
set_option maxRecDepth 100000 in
theorem sf_X4_join (p1 : Int32) (p2 : Int32) (v0_0 : Int32) (f1 : Nat → Int32) (h_v0_0 : 0 ≤ v0_0 ∧ v0_0 ≤ 14) : zw (fn_X4_join p1 p2 v0_0 f1) (fun r => True) := by
  unfold fn_X4_join
  refine zw_if (fun c1 => ?_) (fun c1 => ?_)
  · refine zw_some ?_
    first | exact True.intro | ((try dsimp only); (repeat' apply And.intro) <;> first | with_reducible assumption | first | lia | grind [zu_at, zu_atL, zvn])
  refine zw_if (fun c2 => ?_) (fun c2 => ?_)
  · refine zw_some ?_
    first | exact True.intro | ((try dsimp only); (repeat' apply And.intro) <;> first | with_reducible assumption | first | lia | grind [zu_at, zu_atL, zvn])
  refine zw_if (fun c3 => ?_) (fun c3 => ?_)
  · refine zw_some ?_
    first | exact True.intro | ((try dsimp only); (repeat' apply And.intro) <;> first | with_reducible assumption | first | lia | grind [zu_at, zu_atL, zvn])
  refine zw_if (fun c4 => ?_) (fun c4 => ?_)
  · refine zw_zg32 14 (by decide) (by (try dsimp only); first | lia | grind [zu_at, zu_atL, zvn]) ?_
    refine zw_zl32 (fun s_6 => 0 ≤ s_6.1 ∧ s_6.1 ≤ 14 ∧ s_6.1 ≤ v0_0) (fun s_6 => 14 - s_6.1) (by (try dsimp only); (repeat' apply And.intro) <;> first | with_reducible assumption | first | lia | grind [zu_at, zu_atL, zvn]) (by (try dsimp only); first | lia | grind [zu_at, zu_atL, zvn]) (fun s_6 back_6 Hback_6 hback_6 => ?_)
    obtain ⟨s_6_0, s_6_1⟩ := s_6
    try dsimp only at Hback_6 hback_6
    obtain ⟨Hback_6_0, Hback_6_1, Hback_6_2⟩ := Hback_6
    refine zw_if (fun c5 => ?_) (fun c5 => ?_)
    · refine zw_some ?_
      first | exact True.intro | ((try dsimp only); (repeat' apply And.intro) <;> first | with_reducible assumption | ((try clear hback_6); first | lia | grind [zu_at, zu_atL, zvn]))
    refine zw_zg32 14 (by decide) (by (try dsimp only); ((try clear hback_6); first | lia | grind [zu_at, zu_atL, zvn])) ?_
    refine zw_if (fun c6 => ?_) (fun c6 => ?_)
    · refine zw_zg32 14 (by decide) (by (try dsimp only); ((try clear hback_6); first | lia | grind [zu_at, zu_atL, zvn])) ?_
      exact hback_6 _ (by (try dsimp only); (repeat' apply And.intro) <;> first | with_reducible assumption | ((try clear hback_6); first | lia | grind [zu_at, zu_atL, zvn])) (by (try dsimp only); ((try clear hback_6); first | lia | grind [zu_at, zu_atL, zvn])) (by (try dsimp only); ((try clear hback_6); first | lia | grind [zu_at, zu_atL, zvn]))
    exact hback_6 _ (by (try dsimp only); (repeat' apply And.intro) <;> first | with_reducible assumption | ((try clear hback_6); first | lia | grind [zu_at, zu_atL, zvn])) (by (try dsimp only); ((try clear hback_6); first | lia | grind [zu_at, zu_atL, zvn])) (by (try dsimp only); ((try clear hback_6); first | lia | grind [zu_at, zu_atL, zvn]))
  refine zw_some ?_
  first | exact True.intro | ((try dsimp only); (repeat' apply And.intro) <;> first | with_reducible assumption | ((try clear hback_6); first | lia | grind [zu_at, zu_atL, zvn]))
set_option maxHeartbeats 4000000 in
set_option maxRecDepth 100000 in
theorem sf_X4_find (p1 : Int32) (v0_0 : Int32) (f1 : Nat → Int32) (h_v0_0 : 0 ≤ v0_0 ∧ v0_0 ≤ 14) : zw (fn_X4_find p1 v0_0 f1) (fun r => (-1) ≤ r ∧ r ≤ 13) := by
  unfold fn_X4_find
  refine zw_zl32 (fun s_1 => 0 ≤ s_1 ∧ s_1 ≤ 14 ∧ s_1 ≤ v0_0) (fun s_1 => 14 - s_1) (by (try dsimp only); (repeat' apply And.intro) <;> first | with_reducible assumption | first | lia | grind [zu_at, zu_atL, zvn]) (by (try dsimp only); first | lia | grind [zu_at, zu_atL, zvn]) (fun s_1 back_1 Hback_1 hback_1 => ?_)
  obtain ⟨Hback_1_0, Hback_1_1, Hback_1_2⟩ := Hback_1
  refine zw_if (fun c1 => ?_) (fun c1 => ?_)
  · refine zw_some ?_
    first | exact True.intro | ((try dsimp only); (repeat' apply And.intro) <;> first | with_reducible assumption | ((try clear hback_1); first | lia | grind [zu_at, zu_atL, zvn]))
  refine zw_zg32 14 (by decide) (by (try dsimp only); ((try clear hback_1); first | lia | grind [zu_at, zu_atL, zvn])) ?_
  refine zw_if (fun c2 => ?_) (fun c2 => ?_)
  · refine zw_some ?_
    first | exact True.intro | ((try dsimp only); (repeat' apply And.intro) <;> first | with_reducible assumption | ((try clear hback_1); first | lia | grind [zu_at, zu_atL, zvn]))
  exact hback_1 _ (by (try dsimp only); (repeat' apply And.intro) <;> first | with_reducible assumption | ((try clear hback_1); first | lia | grind [zu_at, zu_atL, zvn])) (by (try dsimp only); ((try clear hback_1); first | lia | grind [zu_at, zu_atL, zvn])) (by (try dsimp only); ((try clear hback_1); first | lia | grind [zu_at, zu_atL, zvn]))
set_option maxHeartbeats 4000000 in
set_option maxRecDepth 100000 in
theorem sf_X4_fix (p1 : Int32) (p2 : Int32) (v0_0 : Int32) (f1 : Nat → Int32) (h_v0_0 : 0 ≤ v0_0 ∧ v0_0 ≤ 14) : zw (fn_X4_fix p1 p2 v0_0 f1) (fun r => True) := by
  unfold fn_X4_fix
  refine zw_if (fun c1 => ?_) (fun c1 => ?_)
  · refine zw_some ?_
    first | exact True.intro | ((try dsimp only); (repeat' apply And.intro) <;> first | with_reducible assumption | first | lia | grind [zu_at, zu_atL, zvn])
  refine zw_if (fun c2 => ?_) (fun c2 => ?_)
  · refine zw_some ?_
    first | exact True.intro | ((try dsimp only); (repeat' apply And.intro) <;> first | with_reducible assumption | first | lia | grind [zu_at, zu_atL, zvn])
  refine zw_zg32 14 (by decide) (by (try dsimp only); first | lia | grind [zu_at, zu_atL, zvn]) ?_
  refine zw_some ?_
  first | exact True.intro | ((try dsimp only); (repeat' apply And.intro) <;> first | with_reducible assumption | first | lia | grind [zu_at, zu_atL, zvn])
set_option maxHeartbeats 4000000 in
set_option maxRecDepth 100000 in
theorem sf_X4_allow (p1 : Int32) (p2 : Int32) (v0_0 : Int32) (f1 : Nat → Int32) (h_v0_0 : 0 ≤ v0_0 ∧ v0_0 ≤ 14) : zw (fn_X4_allow p1 p2 v0_0 f1) (fun r => True) := by
  unfold fn_X4_allow
  refine zw_if (fun c1 => ?_) (fun c1 => ?_)
  · refine zw_some ?_
    first | exact True.intro | ((try dsimp only); (repeat' apply And.intro) <;> first | with_reducible assumption | first | lia | grind [zu_at, zu_atL, zvn])
  refine zw_if (fun c2 => ?_) (fun c2 => ?_)
  · refine zw_some ?_
    first | exact True.intro | ((try dsimp only); (repeat' apply And.intro) <;> first | with_reducible assumption | first | lia | grind [zu_at, zu_atL, zvn])
  refine zw_zg32 14 (by decide) (by (try dsimp only); first | lia | grind [zu_at, zu_atL, zvn]) ?_
  refine zw_some ?_
  first | exact True.intro | ((try dsimp only); (repeat' apply And.intro) <;> first | with_reducible assumption | first | lia | grind [zu_at, zu_atL, zvn])
set_option maxHeartbeats 4000000 in
set_option maxRecDepth 100000 in
theorem sf_X4_isAmong (p0 : Int32) (p1 : Int32) (p2 : Int32) : zw (fn_X4_isAmong p0 p1 p2) (fun r => 0 ≤ r ∧ r ≤ 1 ∧ (¬ r = 1 → r ≤ 0) ∧ (¬ r = 0 → 1 ≤ r)) := by
  unfold fn_X4_isAmong
  refine zw_if (fun c1 => ?_) (fun c1 => ?_)
  · refine zw_some ?_
    first | exact True.intro | ((try dsimp only); (repeat' apply And.intro) <;> first | with_reducible assumption | first | lia | grind [zu_at, zu_atL, zvn])
  refine zw_if (fun c2 => ?_) (fun c2 => ?_)
  · refine zw_some ?_
    first | exact True.intro | ((try dsimp only); (repeat' apply And.intro) <;> first | with_reducible assumption | first | lia | grind [zu_at, zu_atL, zvn])
  refine zw_if (fun c3 => ?_) (fun c3 => ?_)
  · refine zw_some ?_
    first | exact True.intro | ((try dsimp only); (repeat' apply And.intro) <;> first | with_reducible assumption | first | lia | grind [zu_at, zu_atL, zvn])
  refine zw_some ?_
  first | exact True.intro | ((try dsimp only); (repeat' apply And.intro) <;> first | with_reducible assumption | first | lia | grind [zu_at, zu_atL, zvn])
set_option maxHeartbeats 4000000 in
set_option maxRecDepth 100000 in
theorem sf_X4_madeFrom (p1 : Int32) (v0_0 : Int32) (f1 : Nat → Int32) (h_p1 : 0 ≤ p1 ∧ p1 ≤ 13) (h_v0_0 : 0 ≤ v0_0 ∧ v0_0 ≤ 14) : zw (fn_X4_madeFrom p1 v0_0 f1) (fun r => True) := by
  unfold fn_X4_madeFrom
  refine zw_zl32 (fun s_1 => 1 ≤ s_1.2 ∧ s_1.2 ≤ 14 ∧ p1 < s_1.2) (fun s_1 => 14 - s_1.2) (by (try dsimp only); (repeat' apply And.intro) <;> first | with_reducible assumption | first | lia | grind [zu_at, zu_atL, zvn]) (by (try dsimp only); first | lia | grind [zu_at, zu_atL, zvn]) (fun s_1 back_1 Hback_1 hback_1 => ?_)
  obtain ⟨s_1_0, s_1_1⟩ := s_1
  try dsimp only at Hback_1 hback_1
  obtain ⟨Hback_1_0, Hback_1_1, Hback_1_2⟩ := Hback_1
  refine zw_if (fun c1 => ?_) (fun c1 => ?_)
  · refine zw_some ?_
    first | exact True.intro | ((try dsimp only); (repeat' apply And.intro) <;> first | with_reducible assumption | ((try clear hback_1); first | lia | grind [zu_at, zu_atL, zvn]))
  refine zw_zb0 (sf_X4_madeOf s_1_1 0 v0_0 f1 (by first | with_reducible assumption | exact ⟨by with_reducible assumption, by with_reducible assumption⟩ | ((try clear hback_1); first | lia | grind [zu_at, zu_atL, zvn]))) (fun o_3 ho_3 => ?_)
  refine zw_zb0 (sf_X4_isAmong p1 s_1_0 o_3) (fun o_7 ho_7 => ?_)
  obtain ⟨ho_7_0, ho_7_1, ho_7_2, ho_7_3⟩ := ho_7
  refine zw_if (fun c2 => ?_) (fun c2 => ?_)
  · refine zw_zb0 (sf_X4_madeOf s_1_1 1 v0_0 f1 (by first | with_reducible assumption | exact ⟨by with_reducible assumption, by with_reducible assumption⟩ | ((try clear hback_1); first | lia | grind [zu_at, zu_atL, zvn]))) (fun o_12 ho_12 => ?_)
    refine zw_zb0 (sf_X4_isAmong p1 s_1_0 o_12) (fun o_16 ho_16 => ?_)
    obtain ⟨ho_16_0, ho_16_1, ho_16_2, ho_16_3⟩ := ho_16
    refine zw_if (fun c3 => ?_) (fun c3 => ?_)
    · exact hback_1 _ (by (try dsimp only); (repeat' apply And.intro) <;> first | with_reducible assumption | ((try clear hback_1); first | lia | grind [zu_at, zu_atL, zvn])) (by (try dsimp only); ((try clear hback_1); first | lia | grind [zu_at, zu_atL, zvn])) (by (try dsimp only); ((try clear hback_1); first | lia | grind [zu_at, zu_atL, zvn]))
    exact hback_1 _ (by (try dsimp only); (repeat' apply And.intro) <;> first | with_reducible assumption | ((try clear hback_1); first | lia | grind [zu_at, zu_atL, zvn])) (by (try dsimp only); ((try clear hback_1); first | lia | grind [zu_at, zu_atL, zvn])) (by (try dsimp only); ((try clear hback_1); first | lia | grind [zu_at, zu_atL, zvn]))
  exact hback_1 _ (by (try dsimp only); (repeat' apply And.intro) <;> first | with_reducible assumption | ((try clear hback_1); first | lia | grind [zu_at, zu_atL, zvn])) (by (try dsimp only); ((try clear hback_1); first | lia | grind [zu_at, zu_atL, zvn])) (by (try dsimp only); ((try clear hback_1); first | lia | grind [zu_at, zu_atL, zvn]))
set_option maxHeartbeats 4000000 in
set_option maxRecDepth 100000 in
theorem sf_X9_clear  : zw (fn_X9_clear) (fun r => 0 ≤ r.1 ∧ r.1 ≤ 4 ∧ 0 ≤ r.2.2.1 ∧ r.2.2.1 ≤ 14 ∧ 1 ≤ r.2.1 ∧ 0 ≤ r.2.2.2 ∧ r.1 ≤ 0 ∧ r.2.1 ≤ 1 ∧ r.2.2.1 ≤ 0 ∧ r.2.2.2 ≤ 0) := by
  unfold fn_X9_clear
  refine zw_some ?_
  first | exact True.intro | ((try dsimp only); first | with_reducible assumption | grind [zu_at, zu_atL, zvn] | ((repeat' apply And.intro) <;> first | with_reducible assumption | first | lia | grind [zu_at, zu_atL, zvn]))
set_option maxHeartbeats 4000000 in
set_option maxRecDepth 100000 in
theorem sf_X10_kindOf (p0 : Int32) : zw (fn_X10_kindOf p0) (fun r => 1 ≤ r ∧ r ≤ 5) := by
  unfold fn_X10_kindOf
  refine zw_zj (fun _ => True) (fun s_1 Hj_1 => ?_) (fun j_1 hj_1 => ?_)
  · refine zw_zj (fun _ => True) (fun s_2 Hj_2 => ?_) (fun j_2 hj_2 => ?_)
    · refine zw_if (fun c1 => ?_) (fun c1 => ?_)
      · refine zw_some ?_
        first | exact True.intro | ((try dsimp only); first | with_reducible assumption | grind [zu_at, zu_atL, zvn] | ((repeat' apply And.intro) <;> first | with_reducible assumption | ((try clear hj_1); (try clear hj_2); first | lia | grind [zu_at, zu_atL, zvn])))
      refine zw_if (fun c2 => ?_) (fun c2 => ?_)
      · refine zw_some ?_
        first | exact True.intro | ((try dsimp only); first | with_reducible assumption | grind [zu_at, zu_atL, zvn] | ((repeat' apply And.intro) <;> first | with_reducible assumption | ((try clear hj_1); (try clear hj_2); first | lia | grind [zu_at, zu_atL, zvn])))
      refine zw_some ?_
      first | exact True.intro | ((try dsimp only); first | with_reducible assumption | grind [zu_at, zu_atL, zvn] | ((repeat' apply And.intro) <;> first | with_reducible assumption | ((try clear hj_1); (try clear hj_2); first | lia | grind [zu_at, zu_atL, zvn])))
    refine zw_if (fun c3 => ?_) (fun c3 => ?_)
    · exact hj_2 _ (by first | exact True.intro | ((try dsimp only); first | with_reducible assumption | grind [zu_at, zu_atL, zvn] | ((repeat' apply And.intro) <;> first | with_reducible assumption | ((try clear hj_1); (try clear hj_2); first | lia | grind [zu_at, zu_atL, zvn]))))
    refine zw_if (fun c4 => ?_) (fun c4 => ?_)
    · exact hj_2 _ (by first | exact True.intro | ((try dsimp only); first | with_reducible assumption | grind [zu_at, zu_atL, zvn] | ((repeat' apply And.intro) <;> first | with_reducible assumption | ((try clear hj_1); (try clear hj_2); first | lia | grind [zu_at, zu_atL, zvn]))))
    refine zw_some ?_
    first | exact True.intro | ((try dsimp only); first | with_reducible assumption | grind [zu_at, zu_atL, zvn] | ((repeat' apply And.intro) <;> first | with_reducible assumption | ((try clear hj_1); (try clear hj_2); first | lia | grind [zu_at, zu_atL, zvn])))
  refine zw_if (fun c5 => ?_) (fun c5 => ?_)
  · exact hj_1 _ (by first | exact True.intro | ((try dsimp only); first | with_reducible assumption | grind [zu_at, zu_atL, zvn] | ((repeat' apply And.intro) <;> first | with_reducible assumption | ((try clear hj_1); (try clear hj_2); first | lia | grind [zu_at, zu_atL, zvn]))))
  refine zw_if (fun c6 => ?_) (fun c6 => ?_)
  · exact hj_1 _ (by first | exact True.intro | ((try dsimp only); first | with_reducible assumption | grind [zu_at, zu_atL, zvn] | ((repeat' apply And.intro) <;> first | with_reducible assumption | ((try clear hj_1); (try clear hj_2); first | lia | grind [zu_at, zu_atL, zvn]))))
  refine zw_some ?_
  first | exact True.intro | ((try dsimp only); first | with_reducible assumption | grind [zu_at, zu_atL, zvn] | ((repeat' apply And.intro) <;> first | with_reducible assumption | ((try clear hj_1); (try clear hj_2); first | lia | grind [zu_at, zu_atL, zvn])))
set_option maxHeartbeats 4000000 in
set_option maxRecDepth 100000 in
theorem sf_X10_addByte (p1 : Int32) (p2 : Int32) (v0_4 : Int32) (v0_6 : Int32) (h_v0_4 : 0 ≤ v0_4 ∧ v0_4 ≤ 5) : zw (fn_X10_addByte p1 p2 v0_4 v0_6) (fun r => True) := by
  unfold fn_X10_addByte
  refine zw_if (fun c1 => ?_) (fun c1 => ?_)
  · refine zw_some ?_
    first | exact True.intro | ((try dsimp only); first | with_reducible assumption | grind [zu_at, zu_atL, zvn] | ((repeat' apply And.intro) <;> first | with_reducible assumption | first | lia | grind [zu_at, zu_atL, zvn]))
  refine zw_zj (fun _ => True) (fun s_2 Hj_2 => ?_) (fun j_2 hj_2 => ?_)
  · refine zw_if (fun c2 => ?_) (fun c2 => ?_)
    · refine zw_if (fun c3 => ?_) (fun c3 => ?_)
      · refine zw_some ?_
        first | exact True.intro | ((try dsimp only); first | with_reducible assumption | grind [zu_at, zu_atL, zvn] | ((repeat' apply And.intro) <;> first | with_reducible assumption | ((try clear hj_2); first | lia | grind [zu_at, zu_atL, zvn])))
      refine zw_some ?_
      first | exact True.intro | ((try dsimp only); first | with_reducible assumption | grind [zu_at, zu_atL, zvn] | ((repeat' apply And.intro) <;> first | with_reducible assumption | ((try clear hj_2); first | lia | grind [zu_at, zu_atL, zvn])))
    refine zw_some ?_
    first | exact True.intro | ((try dsimp only); first | with_reducible assumption | grind [zu_at, zu_atL, zvn] | ((repeat' apply And.intro) <;> first | with_reducible assumption | ((try clear hj_2); first | lia | grind [zu_at, zu_atL, zvn])))
  refine zw_if (fun c4 => ?_) (fun c4 => ?_)
  · refine zw_if (fun c5 => ?_) (fun c5 => ?_)
    · exact hj_2 _ (by first | exact True.intro | ((try dsimp only); first | with_reducible assumption | grind [zu_at, zu_atL, zvn] | ((repeat' apply And.intro) <;> first | with_reducible assumption | ((try clear hj_2); first | lia | grind [zu_at, zu_atL, zvn]))))
    refine zw_some ?_
    first | exact True.intro | ((try dsimp only); first | with_reducible assumption | grind [zu_at, zu_atL, zvn] | ((repeat' apply And.intro) <;> first | with_reducible assumption | ((try clear hj_2); first | lia | grind [zu_at, zu_atL, zvn])))
  exact hj_2 _ (by first | exact True.intro | ((try dsimp only); first | with_reducible assumption | grind [zu_at, zu_atL, zvn] | ((repeat' apply And.intro) <;> first | with_reducible assumption | ((try clear hj_2); first | lia | grind [zu_at, zu_atL, zvn]))))
set_option maxHeartbeats 4000000 in
set_option maxRecDepth 100000 in
theorem sf_X10_findOwn (p1 : Int32) (f1 : Nat → Int32) : zw (fn_X10_findOwn p1 f1) (fun r => (-1) ≤ r ∧ r ≤ 12) := by
  unfold fn_X10_findOwn
  refine zw_zl32 (fun s_1 => 0 ≤ s_1 ∧ s_1 ≤ 13) (fun s_1 => 13 - s_1) (by (try dsimp only); first | with_reducible assumption | grind [zu_at, zu_atL, zvn] | ((repeat' apply And.intro) <;> first | with_reducible assumption | first | lia | grind [zu_at, zu_atL, zvn])) (by (try dsimp only); first | lia | grind [zu_at, zu_atL, zvn]) (fun s_1 back_1 Hback_1 hback_1 => ?_)
  obtain ⟨Hback_1_0, Hback_1_1⟩ := Hback_1
  refine zw_if (fun c1 => ?_) (fun c1 => ?_)
  · refine zw_some ?_
    first | exact True.intro | ((try dsimp only); first | with_reducible assumption | grind [zu_at, zu_atL, zvn] | ((repeat' apply And.intro) <;> first | with_reducible assumption | ((try clear hback_1); first | lia | grind [zu_at, zu_atL, zvn])))
  refine zw_zg32 13 (by decide) (by (try dsimp only); ((try clear hback_1); first | lia | grind [zu_at, zu_atL, zvn])) ?_
  refine zw_if (fun c2 => ?_) (fun c2 => ?_)
  · refine zw_some ?_
    first | exact True.intro | ((try dsimp only); first | with_reducible assumption | grind [zu_at, zu_atL, zvn] | ((repeat' apply And.intro) <;> first | with_reducible assumption | ((try clear hback_1); first | lia | grind [zu_at, zu_atL, zvn])))
  exact hback_1 _ (by (try dsimp only); first | with_reducible assumption | grind [zu_at, zu_atL, zvn] | ((repeat' apply And.intro) <;> first | with_reducible assumption | ((try clear hback_1); first | lia | grind [zu_at, zu_atL, zvn]))) (by (try dsimp only); ((try clear hback_1); first | lia | grind [zu_at, zu_atL, zvn])) (by (try dsimp only); ((try clear hback_1); first | lia | grind [zu_at, zu_atL, zvn]))
set_option maxHeartbeats 4000000 in
set_option maxRecDepth 100000 in
theorem sf_X10_advance (v0_2 : Int32) (v0_3 : Int32) (v0_4 : Int32) (f1 : Nat → Int32) (f2 : Nat → Int32) (h_v0_2 : 0 ≤ v0_2 ∧ v0_2 ≤ 1200) (h_v0_3 : 0 ≤ v0_3 ∧ v0_3 ≤ 1200) (h_v0_4 : 0 ≤ v0_4 ∧ v0_4 ≤ 5) : zw (fn_X10_advance v0_2 v0_3 v0_4 f1 f2) (fun r => 0 ≤ r.1 ∧ r.1 ≤ 1200 ∧ 0 ≤ r.2.1 ∧ r.2.1 ≤ 5 ∧ 0 ≤ r.2.2.1 ∧ r.2.2.1 ≤ 1200 ∧ (-1) ≤ r.2.2.2.2 ∧ r.2.2.2.2 ≤ 12) := by
  unfold fn_X10_advance
  refine zw_zj (fun s_1 => 0 ≤ s_1 ∧ s_1 ≤ 1 ∧ s_1 ≤ v0_4) (fun s_1 Hj_1 => ?_) (fun j_1 hj_1 => ?_)
  · obtain ⟨Hj_1_0, Hj_1_1, Hj_1_2⟩ := Hj_1
    refine zw_zl32 (fun s_2 => 0 ≤ s_2 ∧ s_2 ≤ 1200 ∧ v0_3 ≤ s_2) (fun s_2 => 1200 - s_2) (by (try dsimp only); first | with_reducible assumption | grind [zu_at, zu_atL, zvn] | ((repeat' apply And.intro) <;> first | with_reducible assumption | ((try clear hj_1); first | lia | grind [zu_at, zu_atL, zvn]))) (by (try dsimp only); ((try clear hj_1); first | lia | grind [zu_at, zu_atL, zvn])) (fun s_2 back_2 Hback_2 hback_2 => ?_)
    obtain ⟨Hback_2_0, Hback_2_1, Hback_2_2⟩ := Hback_2
    refine zw_zj (fun _ => True) (fun s_3 Hj_3 => ?_) (fun j_3 hj_3 => ?_)
    · refine zw_zj (fun s_4 => 0 ≤ s_4 ∧ s_4 ≤ 5 ∧ s_4 ≤ v0_2 + 4) (fun s_4 Hj_4 => ?_) (fun j_4 hj_4 => ?_)
      · obtain ⟨Hj_4_0, Hj_4_1, Hj_4_2⟩ := Hj_4
        refine zw_zl32 (fun s_5 => 0 ≤ s_5.1 ∧ s_5.1 ≤ 1200 ∧ 0 ≤ s_5.2.1 ∧ s_5.2.1 ≤ 1200 ∧ s_5.1 ≤ v0_2 ∧ s_2 ≤ s_5.2.1 ∧ s_5.1 ≤ s_5.2.1) (fun s_5 => 1200 - s_5.1) (by (try dsimp only); first | with_reducible assumption | grind [zu_at, zu_atL, zvn] | ((repeat' apply And.intro) <;> first | with_reducible assumption | ((try clear hj_1); (try clear hback_2); (try clear hj_3); (try clear hj_4); first | lia | grind [zu_at, zu_atL, zvn]))) (by (try dsimp only); ((try clear hj_1); (try clear hback_2); (try clear hj_3); (try clear hj_4); first | lia | grind [zu_at, zu_atL, zvn])) (fun s_5 back_5 Hback_5 hback_5 => ?_)
        obtain ⟨s_5_0, s_5_1, s_5_2⟩ := s_5
        try dsimp only at Hback_5 hback_5
        obtain ⟨Hback_5_0, Hback_5_1, Hback_5_2, Hback_5_3, Hback_5_4, Hback_5_5, Hback_5_6⟩ := Hback_5
        refine zw_zj (fun _ => True) (fun s_6 Hj_6 => ?_) (fun j_6 hj_6 => ?_)
        · refine zw_zj (fun s_7 => 0 ≤ s_7 ∧ s_7 ≤ 1 ∧ s_7 ≤ s_1 ∧ s_7 ≤ s_4) (fun s_7 Hj_7 => ?_) (fun j_7 hj_7 => ?_)
          · obtain ⟨Hj_7_0, Hj_7_1, Hj_7_2, Hj_7_3⟩ := Hj_7
            refine zw_zj (fun s_8 => 0 ≤ s_8 ∧ s_8 ≤ 5 ∧ s_7 ≤ s_8 ∧ s_4 ≤ s_8 + 1 ∧ s_8 ≤ s_4 + 3 ∧ s_8 ≤ v0_2 + 4) (fun s_8 Hj_8 => ?_) (fun j_8 hj_8 => ?_)
            · obtain ⟨Hj_8_0, Hj_8_1, Hj_8_2, Hj_8_3, Hj_8_4, Hj_8_5⟩ := Hj_8
              refine zw_if (fun c1 => ?_) (fun c1 => ?_)
              · refine zw_zb0 (sf_X10_findOwn s_5_2 f2) (fun o_10 ho_10 => ?_)
                obtain ⟨ho_10_0, ho_10_1⟩ := ho_10
                refine zw_some ?_
                first | exact True.intro | ((try dsimp only); first | with_reducible assumption | grind [zu_at, zu_atL, zvn] | ((repeat' apply And.intro) <;> first | with_reducible assumption | ((try clear hj_1); (try clear hback_2); (try clear hj_3); (try clear hj_4); (try clear hback_5); (try clear hj_6); (try clear hj_7); (try clear hj_8); first | lia | grind [zu_at, zu_atL, zvn])))
              refine zw_some ?_
              first | exact True.intro | ((try dsimp only); first | with_reducible assumption | grind [zu_at, zu_atL, zvn] | ((repeat' apply And.intro) <;> first | with_reducible assumption | ((try clear hj_1); (try clear hback_2); (try clear hj_3); (try clear hj_4); (try clear hback_5); (try clear hj_6); (try clear hj_7); (try clear hj_8); first | lia | grind [zu_at, zu_atL, zvn])))
            refine zw_zj (fun _ => 1 ≤ s_4 ∧ s_4 ≤ s_1 + 4 ∧ s_4 ≤ s_7 + 4) (fun s_14 Hj_14 => ?_) (fun j_14 hj_14 => ?_)
            · obtain ⟨Hj_14_0, Hj_14_1, Hj_14_2⟩ := Hj_14
              exact hj_8 _ (by first | exact True.intro | ((try dsimp only); first | with_reducible assumption | grind [zu_at, zu_atL, zvn] | ((repeat' apply And.intro) <;> first | with_reducible assumption | ((try clear hj_1); (try clear hback_2); (try clear hj_3); (try clear hj_4); (try clear hback_5); (try clear hj_6); (try clear hj_7); (try clear hj_8); (try clear hj_14); first | lia | grind [zu_at, zu_atL, zvn]))))
            refine zw_if (fun c2 => ?_) (fun c2 => ?_)
            · refine zw_zj (fun _ => True) (fun s_16 Hj_16 => ?_) (fun j_16 hj_16 => ?_)
              · refine zw_if (fun c3 => ?_) (fun c3 => ?_)
                · refine zw_if (fun c4 => ?_) (fun c4 => ?_)
                  · exact hj_8 _ (by first | exact True.intro | ((try dsimp only); first | with_reducible assumption | grind [zu_at, zu_atL, zvn] | ((repeat' apply And.intro) <;> first | with_reducible assumption | ((try clear hj_1); (try clear hback_2); (try clear hj_3); (try clear hj_4); (try clear hback_5); (try clear hj_6); (try clear hj_7); (try clear hj_8); (try clear hj_14); (try clear hj_16); first | lia | grind [zu_at, zu_atL, zvn]))))
                  exact hj_14 _ (by first | exact True.intro | ((try dsimp only); first | with_reducible assumption | grind [zu_at, zu_atL, zvn] | ((repeat' apply And.intro) <;> first | with_reducible assumption | ((try clear hj_1); (try clear hback_2); (try clear hj_3); (try clear hj_4); (try clear hback_5); (try clear hj_6); (try clear hj_7); (try clear hj_8); (try clear hj_14); (try clear hj_16); first | lia | grind [zu_at, zu_atL, zvn]))))
                exact hj_8 _ (by first | exact True.intro | ((try dsimp only); first | with_reducible assumption | grind [zu_at, zu_atL, zvn] | ((repeat' apply And.intro) <;> first | with_reducible assumption | ((try clear hj_1); (try clear hback_2); (try clear hj_3); (try clear hj_4); (try clear hback_5); (try clear hj_6); (try clear hj_7); (try clear hj_8); (try clear hj_14); (try clear hj_16); first | lia | grind [zu_at, zu_atL, zvn]))))
              refine zw_if (fun c5 => ?_) (fun c5 => ?_)
              · refine zw_if (fun c6 => ?_) (fun c6 => ?_)
                · exact hj_14 _ (by first | exact True.intro | ((try dsimp only); first | with_reducible assumption | grind [zu_at, zu_atL, zvn] | ((repeat' apply And.intro) <;> first | with_reducible assumption | ((try clear hj_1); (try clear hback_2); (try clear hj_3); (try clear hj_4); (try clear hback_5); (try clear hj_6); (try clear hj_7); (try clear hj_8); (try clear hj_14); (try clear hj_16); first | lia | grind [zu_at, zu_atL, zvn]))))
                exact hj_16 _ (by first | exact True.intro | ((try dsimp only); first | with_reducible assumption | grind [zu_at, zu_atL, zvn] | ((repeat' apply And.intro) <;> first | with_reducible assumption | ((try clear hj_1); (try clear hback_2); (try clear hj_3); (try clear hj_4); (try clear hback_5); (try clear hj_6); (try clear hj_7); (try clear hj_8); (try clear hj_14); (try clear hj_16); first | lia | grind [zu_at, zu_atL, zvn]))))
              exact hj_16 _ (by first | exact True.intro | ((try dsimp only); first | with_reducible assumption | grind [zu_at, zu_atL, zvn] | ((repeat' apply And.intro) <;> first | with_reducible assumption | ((try clear hj_1); (try clear hback_2); (try clear hj_3); (try clear hj_4); (try clear hback_5); (try clear hj_6); (try clear hj_7); (try clear hj_8); (try clear hj_14); (try clear hj_16); first | lia | grind [zu_at, zu_atL, zvn]))))
            exact hj_14 _ (by first | exact True.intro | ((try dsimp only); first | with_reducible assumption | grind [zu_at, zu_atL, zvn] | ((repeat' apply And.intro) <;> first | with_reducible assumption | ((try clear hj_1); (try clear hback_2); (try clear hj_3); (try clear hj_4); (try clear hback_5); (try clear hj_6); (try clear hj_7); (try clear hj_8); (try clear hj_14); (try clear hj_16); first | lia | grind [zu_at, zu_atL, zvn]))))
          refine zw_zj (fun _ => True) (fun s_21 Hj_21 => ?_) (fun j_21 hj_21 => ?_)
          · exact hj_7 _ (by first | exact True.intro | ((try dsimp only); first | with_reducible assumption | grind [zu_at, zu_atL, zvn] | ((repeat' apply And.intro) <;> first | with_reducible assumption | ((try clear hj_1); (try clear hback_2); (try clear hj_3); (try clear hj_4); (try clear hback_5); (try clear hj_6); (try clear hj_7); (try clear hj_8); (try clear hj_14); (try clear hj_16); (try clear hj_21); first | lia | grind [zu_at, zu_atL, zvn]))))
          refine zw_if (fun c7 => ?_) (fun c7 => ?_)
          · exact hj_21 _ (by first | exact True.intro | ((try dsimp only); first | with_reducible assumption | grind [zu_at, zu_atL, zvn] | ((repeat' apply And.intro) <;> first | with_reducible assumption | ((try clear hj_1); (try clear hback_2); (try clear hj_3); (try clear hj_4); (try clear hback_5); (try clear hj_6); (try clear hj_7); (try clear hj_8); (try clear hj_14); (try clear hj_16); (try clear hj_21); first | lia | grind [zu_at, zu_atL, zvn]))))
          refine zw_if (fun c8 => ?_) (fun c8 => ?_)
          · refine zw_zj (fun _ => 1 ≤ s_4 ∧ s_4 ≤ 2) (fun s_24 Hj_24 => ?_) (fun j_24 hj_24 => ?_)
            · obtain ⟨Hj_24_0, Hj_24_1⟩ := Hj_24
              exact hj_7 _ (by first | exact True.intro | ((try dsimp only); first | with_reducible assumption | grind [zu_at, zu_atL, zvn] | ((repeat' apply And.intro) <;> first | with_reducible assumption | ((try clear hj_1); (try clear hback_2); (try clear hj_3); (try clear hj_4); (try clear hback_5); (try clear hj_6); (try clear hj_7); (try clear hj_8); (try clear hj_14); (try clear hj_16); (try clear hj_21); (try clear hj_24); first | lia | grind [zu_at, zu_atL, zvn]))))
            refine zw_if (fun c9 => ?_) (fun c9 => ?_)
            · exact hj_24 _ (by first | exact True.intro | ((try dsimp only); first | with_reducible assumption | grind [zu_at, zu_atL, zvn] | ((repeat' apply And.intro) <;> first | with_reducible assumption | ((try clear hj_1); (try clear hback_2); (try clear hj_3); (try clear hj_4); (try clear hback_5); (try clear hj_6); (try clear hj_7); (try clear hj_8); (try clear hj_14); (try clear hj_16); (try clear hj_21); (try clear hj_24); first | lia | grind [zu_at, zu_atL, zvn]))))
            refine zw_if (fun c10 => ?_) (fun c10 => ?_)
            · exact hj_24 _ (by first | exact True.intro | ((try dsimp only); first | with_reducible assumption | grind [zu_at, zu_atL, zvn] | ((repeat' apply And.intro) <;> first | with_reducible assumption | ((try clear hj_1); (try clear hback_2); (try clear hj_3); (try clear hj_4); (try clear hback_5); (try clear hj_6); (try clear hj_7); (try clear hj_8); (try clear hj_14); (try clear hj_16); (try clear hj_21); (try clear hj_24); first | lia | grind [zu_at, zu_atL, zvn]))))
            exact hj_21 _ (by first | exact True.intro | ((try dsimp only); first | with_reducible assumption | grind [zu_at, zu_atL, zvn] | ((repeat' apply And.intro) <;> first | with_reducible assumption | ((try clear hj_1); (try clear hback_2); (try clear hj_3); (try clear hj_4); (try clear hback_5); (try clear hj_6); (try clear hj_7); (try clear hj_8); (try clear hj_14); (try clear hj_16); (try clear hj_21); (try clear hj_24); first | lia | grind [zu_at, zu_atL, zvn]))))
          exact hj_21 _ (by first | exact True.intro | ((try dsimp only); first | with_reducible assumption | grind [zu_at, zu_atL, zvn] | ((repeat' apply And.intro) <;> first | with_reducible assumption | ((try clear hj_1); (try clear hback_2); (try clear hj_3); (try clear hj_4); (try clear hback_5); (try clear hj_6); (try clear hj_7); (try clear hj_8); (try clear hj_14); (try clear hj_16); (try clear hj_21); (try clear hj_24); first | lia | grind [zu_at, zu_atL, zvn]))))
        refine zw_if (fun c11 => ?_) (fun c11 => ?_)
        · exact hj_6 _ (by first | exact True.intro | ((try dsimp only); first | with_reducible assumption | grind [zu_at, zu_atL, zvn] | ((repeat' apply And.intro) <;> first | with_reducible assumption | ((try clear hj_1); (try clear hback_2); (try clear hj_3); (try clear hj_4); (try clear hback_5); (try clear hj_6); (try clear hj_7); (try clear hj_8); (try clear hj_14); (try clear hj_16); (try clear hj_21); (try clear hj_24); first | lia | grind [zu_at, zu_atL, zvn]))))
        refine zw_zg32 1200 (by decide) (by (try dsimp only); ((try clear hj_1); (try clear hback_2); (try clear hj_3); (try clear hj_4); (try clear hback_5); (try clear hj_6); (try clear hj_7); (try clear hj_8); (try clear hj_14); (try clear hj_16); (try clear hj_21); (try clear hj_24); first | lia | grind [zu_at, zu_atL, zvn])) ?_
        refine zw_zb0 (sf_X10_kindOf (f1 s_5_1.toNatClampNeg)) (fun o_29 ho_29 => ?_)
        obtain ⟨ho_29_0, ho_29_1⟩ := ho_29
        refine zw_if (fun c12 => ?_) (fun c12 => ?_)
        · refine zw_zj (fun _ => True) (fun s_34 Hj_34 => ?_) (fun j_34 hj_34 => ?_)
          · refine zw_zg32 1200 (by decide) (by (try dsimp only); ((try clear hj_1); (try clear hback_2); (try clear hj_3); (try clear hj_4); (try clear hback_5); (try clear hj_6); (try clear hj_7); (try clear hj_8); (try clear hj_14); (try clear hj_16); (try clear hj_21); (try clear hj_24); (try clear hj_34); first | lia | grind [zu_at, zu_atL, zvn])) ?_
            refine zw_zb0 (sf_X10_addByte (f1 s_5_1.toNatClampNeg) (s_5_0 + 1) s_4 s_5_2 (by first | with_reducible assumption | exact ⟨by with_reducible assumption, by with_reducible assumption⟩ | ((try clear hj_1); (try clear hback_2); (try clear hj_3); (try clear hj_4); (try clear hback_5); (try clear hj_6); (try clear hj_7); (try clear hj_8); (try clear hj_14); (try clear hj_16); (try clear hj_21); (try clear hj_24); (try clear hj_34); first | lia | grind [zu_at, zu_atL, zvn]))) (fun o_36 ho_36 => ?_)
            exact hback_5 _ (by (try dsimp only); first | with_reducible assumption | grind [zu_at, zu_atL, zvn] | ((repeat' apply And.intro) <;> first | with_reducible assumption | ((try clear hj_1); (try clear hback_2); (try clear hj_3); (try clear hj_4); (try clear hback_5); (try clear hj_6); (try clear hj_7); (try clear hj_8); (try clear hj_14); (try clear hj_16); (try clear hj_21); (try clear hj_24); (try clear hj_34); first | lia | grind [zu_at, zu_atL, zvn]))) (by (try dsimp only); ((try clear hj_1); (try clear hback_2); (try clear hj_3); (try clear hj_4); (try clear hback_5); (try clear hj_6); (try clear hj_7); (try clear hj_8); (try clear hj_14); (try clear hj_16); (try clear hj_21); (try clear hj_24); (try clear hj_34); first | lia | grind [zu_at, zu_atL, zvn])) (by (try dsimp only); ((try clear hj_1); (try clear hback_2); (try clear hj_3); (try clear hj_4); (try clear hback_5); (try clear hj_6); (try clear hj_7); (try clear hj_8); (try clear hj_14); (try clear hj_16); (try clear hj_21); (try clear hj_24); (try clear hj_34); first | lia | grind [zu_at, zu_atL, zvn]))
          refine zw_if (fun c13 => ?_) (fun c13 => ?_)
          · refine zw_if (fun c14 => ?_) (fun c14 => ?_)
            · exact hj_34 _ (by first | exact True.intro | ((try dsimp only); first | with_reducible assumption | grind [zu_at, zu_atL, zvn] | ((repeat' apply And.intro) <;> first | with_reducible assumption | ((try clear hj_1); (try clear hback_2); (try clear hj_3); (try clear hj_4); (try clear hback_5); (try clear hj_6); (try clear hj_7); (try clear hj_8); (try clear hj_14); (try clear hj_16); (try clear hj_21); (try clear hj_24); (try clear hj_34); first | lia | grind [zu_at, zu_atL, zvn]))))
            exact hj_6 _ (by first | exact True.intro | ((try dsimp only); first | with_reducible assumption | grind [zu_at, zu_atL, zvn] | ((repeat' apply And.intro) <;> first | with_reducible assumption | ((try clear hj_1); (try clear hback_2); (try clear hj_3); (try clear hj_4); (try clear hback_5); (try clear hj_6); (try clear hj_7); (try clear hj_8); (try clear hj_14); (try clear hj_16); (try clear hj_21); (try clear hj_24); (try clear hj_34); first | lia | grind [zu_at, zu_atL, zvn]))))
          exact hj_34 _ (by first | exact True.intro | ((try dsimp only); first | with_reducible assumption | grind [zu_at, zu_atL, zvn] | ((repeat' apply And.intro) <;> first | with_reducible assumption | ((try clear hj_1); (try clear hback_2); (try clear hj_3); (try clear hj_4); (try clear hback_5); (try clear hj_6); (try clear hj_7); (try clear hj_8); (try clear hj_14); (try clear hj_16); (try clear hj_21); (try clear hj_24); (try clear hj_34); first | lia | grind [zu_at, zu_atL, zvn]))))
        exact hj_6 _ (by first | exact True.intro | ((try dsimp only); first | with_reducible assumption | grind [zu_at, zu_atL, zvn] | ((repeat' apply And.intro) <;> first | with_reducible assumption | ((try clear hj_1); (try clear hback_2); (try clear hj_3); (try clear hj_4); (try clear hback_5); (try clear hj_6); (try clear hj_7); (try clear hj_8); (try clear hj_14); (try clear hj_16); (try clear hj_21); (try clear hj_24); (try clear hj_34); first | lia | grind [zu_at, zu_atL, zvn]))))
      refine zw_if (fun c15 => ?_) (fun c15 => ?_)
      · exact hj_4 _ (by first | exact True.intro | ((try dsimp only); first | with_reducible assumption | grind [zu_at, zu_atL, zvn] | ((repeat' apply And.intro) <;> first | with_reducible assumption | ((try clear hj_1); (try clear hback_2); (try clear hj_3); (try clear hj_4); (try clear hback_5); (try clear hj_6); (try clear hj_7); (try clear hj_8); (try clear hj_14); (try clear hj_16); (try clear hj_21); (try clear hj_24); (try clear hj_34); first | lia | grind [zu_at, zu_atL, zvn]))))
      refine zw_zg32 1200 (by decide) (by (try dsimp only); ((try clear hj_1); (try clear hback_2); (try clear hj_3); (try clear hj_4); (try clear hback_5); (try clear hj_6); (try clear hj_7); (try clear hj_8); (try clear hj_14); (try clear hj_16); (try clear hj_21); (try clear hj_24); (try clear hj_34); first | lia | grind [zu_at, zu_atL, zvn])) ?_
      refine zw_zb0 (sf_X10_kindOf (f1 s_2.toNatClampNeg)) (fun o_44 ho_44 => ?_)
      obtain ⟨ho_44_0, ho_44_1⟩ := ho_44
      exact hj_4 _ (by first | exact True.intro | ((try dsimp only); first | with_reducible assumption | grind [zu_at, zu_atL, zvn] | ((repeat' apply And.intro) <;> first | with_reducible assumption | ((try clear hj_1); (try clear hback_2); (try clear hj_3); (try clear hj_4); (try clear hback_5); (try clear hj_6); (try clear hj_7); (try clear hj_8); (try clear hj_14); (try clear hj_16); (try clear hj_21); (try clear hj_24); (try clear hj_34); first | lia | grind [zu_at, zu_atL, zvn]))))
    refine zw_if (fun c16 => ?_) (fun c16 => ?_)
    · exact hj_3 _ (by first | exact True.intro | ((try dsimp only); first | with_reducible assumption | grind [zu_at, zu_atL, zvn] | ((repeat' apply And.intro) <;> first | with_reducible assumption | ((try clear hj_1); (try clear hback_2); (try clear hj_3); (try clear hj_4); (try clear hback_5); (try clear hj_6); (try clear hj_7); (try clear hj_8); (try clear hj_14); (try clear hj_16); (try clear hj_21); (try clear hj_24); (try clear hj_34); first | lia | grind [zu_at, zu_atL, zvn]))))
    refine zw_zg32 1200 (by decide) (by (try dsimp only); ((try clear hj_1); (try clear hback_2); (try clear hj_3); (try clear hj_4); (try clear hback_5); (try clear hj_6); (try clear hj_7); (try clear hj_8); (try clear hj_14); (try clear hj_16); (try clear hj_21); (try clear hj_24); (try clear hj_34); first | lia | grind [zu_at, zu_atL, zvn])) ?_
    refine zw_zb0 (sf_X10_kindOf (f1 s_2.toNatClampNeg)) (fun o_50 ho_50 => ?_)
    obtain ⟨ho_50_0, ho_50_1⟩ := ho_50
    refine zw_if (fun c17 => ?_) (fun c17 => ?_)
    · exact hback_2 _ (by (try dsimp only); first | with_reducible assumption | grind [zu_at, zu_atL, zvn] | ((repeat' apply And.intro) <;> first | with_reducible assumption | ((try clear hj_1); (try clear hback_2); (try clear hj_3); (try clear hj_4); (try clear hback_5); (try clear hj_6); (try clear hj_7); (try clear hj_8); (try clear hj_14); (try clear hj_16); (try clear hj_21); (try clear hj_24); (try clear hj_34); first | lia | grind [zu_at, zu_atL, zvn]))) (by (try dsimp only); ((try clear hj_1); (try clear hback_2); (try clear hj_3); (try clear hj_4); (try clear hback_5); (try clear hj_6); (try clear hj_7); (try clear hj_8); (try clear hj_14); (try clear hj_16); (try clear hj_21); (try clear hj_24); (try clear hj_34); first | lia | grind [zu_at, zu_atL, zvn])) (by (try dsimp only); ((try clear hj_1); (try clear hback_2); (try clear hj_3); (try clear hj_4); (try clear hback_5); (try clear hj_6); (try clear hj_7); (try clear hj_8); (try clear hj_14); (try clear hj_16); (try clear hj_21); (try clear hj_24); (try clear hj_34); first | lia | grind [zu_at, zu_atL, zvn]))
    exact hj_3 _ (by first | exact True.intro | ((try dsimp only); first | with_reducible assumption | grind [zu_at, zu_atL, zvn] | ((repeat' apply And.intro) <;> first | with_reducible assumption | ((try clear hj_1); (try clear hback_2); (try clear hj_3); (try clear hj_4); (try clear hback_5); (try clear hj_6); (try clear hj_7); (try clear hj_8); (try clear hj_14); (try clear hj_16); (try clear hj_21); (try clear hj_24); (try clear hj_34); first | lia | grind [zu_at, zu_atL, zvn]))))
  refine zw_zj (fun _ => 1 ≤ v0_4 ∧ v0_4 ≤ 2) (fun s_55 Hj_55 => ?_) (fun j_55 hj_55 => ?_)
  · obtain ⟨Hj_55_0, Hj_55_1⟩ := Hj_55
    exact hj_1 _ (by first | exact True.intro | ((try dsimp only); first | with_reducible assumption | grind [zu_at, zu_atL, zvn] | ((repeat' apply And.intro) <;> first | with_reducible assumption | ((try clear hj_1); (try clear hback_2); (try clear hj_3); (try clear hj_4); (try clear hback_5); (try clear hj_6); (try clear hj_7); (try clear hj_8); (try clear hj_14); (try clear hj_16); (try clear hj_21); (try clear hj_24); (try clear hj_34); (try clear hj_55); first | lia | grind [zu_at, zu_atL, zvn]))))
  refine zw_if (fun c18 => ?_) (fun c18 => ?_)
  · exact hj_55 _ (by first | exact True.intro | ((try dsimp only); first | with_reducible assumption | grind [zu_at, zu_atL, zvn] | ((repeat' apply And.intro) <;> first | with_reducible assumption | ((try clear hj_1); (try clear hback_2); (try clear hj_3); (try clear hj_4); (try clear hback_5); (try clear hj_6); (try clear hj_7); (try clear hj_8); (try clear hj_14); (try clear hj_16); (try clear hj_21); (try clear hj_24); (try clear hj_34); (try clear hj_55); first | lia | grind [zu_at, zu_atL, zvn]))))
  refine zw_if (fun c19 => ?_) (fun c19 => ?_)
  · exact hj_55 _ (by first | exact True.intro | ((try dsimp only); first | with_reducible assumption | grind [zu_at, zu_atL, zvn] | ((repeat' apply And.intro) <;> first | with_reducible assumption | ((try clear hj_1); (try clear hback_2); (try clear hj_3); (try clear hj_4); (try clear hback_5); (try clear hj_6); (try clear hj_7); (try clear hj_8); (try clear hj_14); (try clear hj_16); (try clear hj_21); (try clear hj_24); (try clear hj_34); (try clear hj_55); first | lia | grind [zu_at, zu_atL, zvn]))))
  exact hj_1 _ (by first | exact True.intro | ((try dsimp only); first | with_reducible assumption | grind [zu_at, zu_atL, zvn] | ((repeat' apply And.intro) <;> first | with_reducible assumption | ((try clear hj_1); (try clear hback_2); (try clear hj_3); (try clear hj_4); (try clear hback_5); (try clear hj_6); (try clear hj_7); (try clear hj_8); (try clear hj_14); (try clear hj_16); (try clear hj_21); (try clear hj_24); (try clear hj_34); (try clear hj_55); first | lia | grind [zu_at, zu_atL, zvn]))))
