set_option maxHeartbeats 4000000 in
set_option maxRecDepth 100000 in
theorem sf_X12_laysFree (f1 : Nat → Int32) (f2 : Nat → Int32) (f3 : Nat → Int32) (f4 : Nat → Int32) (h_f1 : (∀ i : Nat, 0 ≤ f1 i ∧ f1 i ≤ 14)) (h_f2 : (∀ i : Nat, 0 ≤ f2 i ∧ f2 i ≤ 13)) (h_f3 : (∀ i : Nat, (-1) ≤ f3 i ∧ f3 i ≤ 3)) (h_f4 : (∀ i : Nat, 0 ≤ f4 i ∧ f4 i ≤ 13)) : zw (fn_X12_laysFree f1 f2 f3 f4) (fun r => 0 ≤ r.1 ∧ r.1 ≤ 14 ∧ (∀ i : Nat, 0 ≤ r.2 i ∧ r.2 i ≤ 13)) := by
  unfold fn_X12_laysFree
  refine zw_zl32 (fun s_1 => (∀ i : Nat, 0 ≤ s_1.2.2 i ∧ s_1.2.2 i ≤ 13) ∧ 0 ≤ s_1.1 ∧ s_1.1 ≤ 14 ∧ 0 ≤ s_1.2.1 ∧ s_1.2.1 ≤ 14 ∧ s_1.2.1 ≤ s_1.1) (fun s_1 => 14 - s_1.1) (by (try dsimp only); (repeat' apply And.intro) <;> first | with_reducible assumption | first | lia | grind [zu_at, zu_atL, zvn]) (by (try dsimp only); first | lia | grind [zu_at, zu_atL, zvn]) (fun s_1 back_1 Hback_1 hback_1 => ?_)
  obtain ⟨s_1_0, s_1_1, s_1_2⟩ := s_1
  try dsimp only at Hback_1 hback_1
  obtain ⟨Hback_1_0, Hback_1_1, Hback_1_2, Hback_1_3, Hback_1_4, Hback_1_5⟩ := Hback_1
  refine zw_if (fun c1 => ?_) (fun c1 => ?_)
  · refine zw_some ?_
    first | exact True.intro | ((try dsimp only); (repeat' apply And.intro) <;> first | with_reducible assumption | first | lia | grind [zu_at, zu_atL, zvn])
  refine zw_zg32 28 (by decide) (by (try dsimp only); first | lia | grind [zu_at, zu_atL, zvn]) ?_
  refine zw_if (fun c2 => ?_) (fun c2 => ?_)
  · refine zw_zb0 (sf_X12_isFree s_1_0 f1 f2 f3 (by first | with_reducible assumption | exact ⟨by with_reducible assumption, by with_reducible assumption⟩ | first | lia | grind [zu_at, zu_atL, zvn]) (by first | with_reducible assumption | exact ⟨by with_reducible assumption, by with_reducible assumption⟩ | first | lia | grind [zu_at, zu_atL, zvn]) (by first | with_reducible assumption | exact ⟨by with_reducible assumption, by with_reducible assumption⟩ | first | lia | grind [zu_at, zu_atL, zvn])) (fun o_5 ho_5 => ?_)
    obtain ⟨ho_5_0, ho_5_1, ho_5_2, ho_5_3, ho_5_4, ho_5_5⟩ := ho_5
    refine zw_if (fun c3 => ?_) (fun c3 => ?_)
    · exact hback_1 _ (by (try dsimp only); (repeat' apply And.intro) <;> first | with_reducible assumption | first | lia | grind [zu_at, zu_atL, zvn]) (by (try dsimp only); first | lia | grind [zu_at, zu_atL, zvn]) (by (try dsimp only); first | lia | grind [zu_at, zu_atL, zvn])
    refine zw_zg32 14 (by decide) (by (try dsimp only); first | lia | grind [zu_at, zu_atL, zvn]) ?_
    exact hback_1 _ (by (try dsimp only); (repeat' apply And.intro) <;> first | with_reducible assumption | first | lia | grind [zu_at, zu_atL, zvn]) (by (try dsimp only); first | lia | grind [zu_at, zu_atL, zvn]) (by (try dsimp only); first | lia | grind [zu_at, zu_atL, zvn])
  exact hback_1 _ (by (try dsimp only); (repeat' apply And.intro) <;> first | with_reducible assumption | first | lia | grind [zu_at, zu_atL, zvn]) (by (try dsimp only); first | lia | grind [zu_at, zu_atL, zvn]) (by (try dsimp only); first | lia | grind [zu_at, zu_atL, zvn])
set_option maxHeartbeats 4000000 in
set_option maxRecDepth 100000 in
theorem sf_X12_has (p1 : Int32) (v0_64 : Int32) (f1 : Nat → Int32) (f2 : Nat → Int32) (f3 : Nat → Int32) (f4 : Nat → Int32) (f5 : Nat → Int32) (f6 : Nat → Int32) (f7 : Nat → Int32) (f8 : Nat → Int32) (h_f1 : (∀ i : Nat, 0 ≤ f1 i ∧ f1 i ≤ 14)) (h_f2 : (∀ i : Nat, 0 ≤ f2 i ∧ f2 i ≤ 13)) (h_f3 : (∀ i : Nat, (-1) ≤ f3 i ∧ f3 i ≤ 3)) (h_f4 : (∀ i : Nat, 0 ≤ f4 i ∧ f4 i ≤ 13)) (h_f5 : (∀ i : Nat, 0 ≤ f5 i ∧ f5 i ≤ 4)) : zw (fn_X12_has p1 v0_64 f1 f2 f3 f4 f5 f6 f7 f8) (fun r => 0 ≤ r.2.1 ∧ r.2.1 ≤ 14 ∧ (∀ i : Nat, 0 ≤ r.2.2 i ∧ r.2.2 i ≤ 13)) := by
  unfold fn_X12_has
  refine zw_zb0 (sf_X12_laysFree f1 f2 f3 f4 (by first | with_reducible assumption | exact ⟨by with_reducible assumption, by with_reducible assumption⟩ | first | lia | grind [zu_at, zu_atL, zvn]) (by first | with_reducible assumption | exact ⟨by with_reducible assumption, by with_reducible assumption⟩ | first | lia | grind [zu_at, zu_atL, zvn]) (by first | with_reducible assumption | exact ⟨by with_reducible assumption, by with_reducible assumption⟩ | first | lia | grind [zu_at, zu_atL, zvn]) (by first | with_reducible assumption | exact ⟨by with_reducible assumption, by with_reducible assumption⟩ | first | lia | grind [zu_at, zu_atL, zvn])) (fun o_1 ho_1 => ?_)
  obtain ⟨o_1_0, o_1_1⟩ := o_1
  try dsimp only at ho_1
  obtain ⟨ho_1_0, ho_1_1, ho_1_2⟩ := ho_1
  refine zw_if (fun c1 => ?_) (fun c1 => ?_)
  · refine zw_some ?_
    first | exact True.intro | ((try dsimp only); (repeat' apply And.intro) <;> first | with_reducible assumption | first | lia | grind [zu_at, zu_atL, zvn])
  refine zw_if (fun c2 => ?_) (fun c2 => ?_)
  · refine zw_some ?_
    first | exact True.intro | ((try dsimp only); (repeat' apply And.intro) <;> first | with_reducible assumption | first | lia | grind [zu_at, zu_atL, zvn])
  refine zw_if (fun c3 => ?_) (fun c3 => ?_)
  · refine zw_zb0 (sf_X12_inputs f1 f6 (by first | with_reducible assumption | exact ⟨by with_reducible assumption, by with_reducible assumption⟩ | first | lia | grind [zu_at, zu_atL, zvn])) (fun o_8 ho_8 => ?_)
    obtain ⟨ho_8_0, ho_8_1⟩ := ho_8
    refine zw_some ?_
    first | exact True.intro | ((try dsimp only); (repeat' apply And.intro) <;> first | with_reducible assumption | first | lia | grind [zu_at, zu_atL, zvn])
  refine zw_if (fun c4 => ?_) (fun c4 => ?_)
  · refine zw_zb0 (sf_X12_answers f1 f7 (by first | with_reducible assumption | exact ⟨by with_reducible assumption, by with_reducible assumption⟩ | first | lia | grind [zu_at, zu_atL, zvn])) (fun o_13 ho_13 => ?_)
    obtain ⟨ho_13_0, ho_13_1⟩ := ho_13
    refine zw_some ?_
    first | exact True.intro | ((try dsimp only); (repeat' apply And.intro) <;> first | with_reducible assumption | first | lia | grind [zu_at, zu_atL, zvn])
  refine zw_if (fun c5 => ?_) (fun c5 => ?_)
  · refine zw_zb0 (sf_X12_groups f1 f2 (by first | with_reducible assumption | exact ⟨by with_reducible assumption, by with_reducible assumption⟩ | first | lia | grind [zu_at, zu_atL, zvn]) (by first | with_reducible assumption | exact ⟨by with_reducible assumption, by with_reducible assumption⟩ | first | lia | grind [zu_at, zu_atL, zvn])) (fun o_18 ho_18 => ?_)
    obtain ⟨ho_18_0, ho_18_1⟩ := ho_18
    refine zw_some ?_
    first | exact True.intro | ((try dsimp only); (repeat' apply And.intro) <;> first | with_reducible assumption | first | lia | grind [zu_at, zu_atL, zvn])
  refine zw_if (fun c6 => ?_) (fun c6 => ?_)
  · refine zw_some ?_
    first | exact True.intro | ((try dsimp only); (repeat' apply And.intro) <;> first | with_reducible assumption | first | lia | grind [zu_at, zu_atL, zvn])
  refine zw_if (fun c7 => ?_) (fun c7 => ?_)
  · refine zw_if (fun c8 => ?_) (fun c8 => ?_)
    · refine zw_some ?_
      first | exact True.intro | ((try dsimp only); (repeat' apply And.intro) <;> first | with_reducible assumption | first | lia | grind [zu_at, zu_atL, zvn])
    refine zw_some ?_
    first | exact True.intro | ((try dsimp only); (repeat' apply And.intro) <;> first | with_reducible assumption | first | lia | grind [zu_at, zu_atL, zvn])
  refine zw_if (fun c9 => ?_) (fun c9 => ?_)
  · refine zw_some ?_
    first | exact True.intro | ((try dsimp only); (repeat' apply And.intro) <;> first | with_reducible assumption | first | lia | grind [zu_at, zu_atL, zvn])
  refine zw_some ?_
  first | exact True.intro | ((try dsimp only); (repeat' apply And.intro) <;> first | with_reducible assumption | first | lia | grind [zu_at, zu_atL, zvn])
set_option maxHeartbeats 4000000 in
set_option maxRecDepth 100000 in
theorem sf_X12_letter (p1 : Int32) (p2 : Int32) (p3 : Int32) (f1 : Nat → Int32) (f2 : Nat → Int32) (f3 : Nat → Int32) (f4 : Nat → Int32) (h_p2 : 0 ≤ p2 ∧ p2 ≤ 1) (h_f1 : (∀ i : Nat, 0 ≤ f1 i ∧ f1 i ≤ 14)) (h_f2 : (∀ i : Nat, 0 ≤ f2 i ∧ f2 i ≤ 4)) : zw (fn_X12_letter p1 p2 p3 f1 f2 f3 f4) (fun r => (-1) ≤ r ∧ r ≤ 31) := by
  unfold fn_X12_letter
  refine zw_zj (fun s_1 => (s_1 = 0 ∨ p2 = 0 ∧ 0 ≤ p1 ∧ p1 < f1 (0 : Int32).toNatClampNeg ∨ ¬ p2 = 0 ∧ 0 ≤ p1 ∧ p1 < f2 (0 : Int32).toNatClampNeg) ∧ 0 ≤ s_1 ∧ s_1 ≤ 1) (fun s_1 Hj_1 => ?_) (fun j_1 hj_1 => ?_)
  · obtain ⟨Hj_1_0, Hj_1_1, Hj_1_2⟩ := Hj_1
    refine zw_if (fun c1 => ?_) (fun c1 => ?_)
    · refine zw_some ?_
      first | exact True.intro | ((try dsimp only); (repeat' apply And.intro) <;> first | with_reducible assumption | first | lia | grind [zu_at, zu_atL, zvn, zand31])
    refine zw_zb0 (sf_X12_isIn p3.toInt64 (0 : Int64) (5 : Int64)) (fun o_3 ho_3 => ?_)
    obtain ⟨ho_3_0, ho_3_1, ho_3_2, ho_3_3, ho_3_4⟩ := ho_3
    refine zw_if (fun c2 => ?_) (fun c2 => ?_)
    · refine zw_some ?_
      first | exact True.intro | ((try dsimp only); (repeat' apply And.intro) <;> first | with_reducible assumption | first | lia | grind [zu_at, zu_atL, zvn, zand31])
    refine zw_if (fun c3 => ?_) (fun c3 => ?_)
    · refine zw_zg32 28 (by decide) (by (try dsimp only); first | lia | grind [zu_at, zu_atL, zvn, zand31]) ?_
      refine zw_some ?_
      first | exact True.intro | ((try dsimp only); (repeat' apply And.intro) <;> first | with_reducible assumption | first | lia | grind [zu_at, zu_atL, zvn, zand31])
    refine zw_zg32 8 (by decide) (by (try dsimp only); first | lia | grind [zu_at, zu_atL, zvn, zand31]) ?_
    refine zw_some ?_
    first | exact True.intro | ((try dsimp only); (repeat' apply And.intro) <;> first | with_reducible assumption | first | lia | grind [zu_at, zu_atL, zvn, zand31])
  refine zw_if (fun c4 => ?_) (fun c4 => ?_)
  · refine zw_zb0 (sf_X12_isNumber p1 f1 (by first | with_reducible assumption | exact ⟨by with_reducible assumption, by with_reducible assumption⟩ | first | lia | grind [zu_at, zu_atL, zvn, zand31])) (fun o_12 ho_12 => ?_)
    obtain ⟨ho_12_0, ho_12_1, ho_12_2, ho_12_3, ho_12_4, ho_12_5⟩ := ho_12
    exact hj_1 _ (by first | exact True.intro | ((try dsimp only); (repeat' apply And.intro) <;> first | with_reducible assumption | first | lia | grind [zu_at, zu_atL, zvn, zand31]))
  refine zw_zb0 (sf_X12_isFormat p1 f2 (by first | with_reducible assumption | exact ⟨by with_reducible assumption, by with_reducible assumption⟩ | first | lia | grind [zu_at, zu_atL, zvn, zand31])) (fun o_16 ho_16 => ?_)
  obtain ⟨ho_16_0, ho_16_1, ho_16_2, ho_16_3, ho_16_4, ho_16_5, ho_16_6⟩ := ho_16
  exact hj_1 _ (by first | exact True.intro | ((try dsimp only); (repeat' apply And.intro) <;> first | with_reducible assumption | first | lia | grind [zu_at, zu_atL, zvn, zand31]))
set_option maxHeartbeats 4000000 in
set_option maxRecDepth 100000 in
theorem sf_X12_format (p1 : Int32) (p2 : Int32) (f1 : Nat → Int32) (f2 : Nat → Int32) (f3 : Nat → Int32) (f4 : Nat → Int32) (h_f1 : (∀ i : Nat, 0 ≤ f1 i ∧ f1 i ≤ 4)) : zw (fn_X12_format p1 p2 f1 f2 f3 f4) (fun r => True) := by
  unfold fn_X12_format
  refine zw_zb0 (sf_X12_isFormat p1 f1 (by first | with_reducible assumption | exact ⟨by with_reducible assumption, by with_reducible assumption⟩ | first | lia | grind [zu_at, zu_atL, zvn])) (fun o_1 ho_1 => ?_)
  obtain ⟨ho_1_0, ho_1_1, ho_1_2, ho_1_3, ho_1_4, ho_1_5, ho_1_6⟩ := ho_1
  refine zw_if (fun c1 => ?_) (fun c1 => ?_)
  · refine zw_some ?_
    first | exact True.intro | ((try dsimp only); (repeat' apply And.intro) <;> first | with_reducible assumption | first | lia | grind [zu_at, zu_atL, zvn])
  refine zw_if (fun c2 => ?_) (fun c2 => ?_)
  · refine zw_zg32 8 (by decide) (by (try dsimp only); first | lia | grind [zu_at, zu_atL, zvn]) ?_
    refine zw_some ?_
    first | exact True.intro | ((try dsimp only); (repeat' apply And.intro) <;> first | with_reducible assumption | first | lia | grind [zu_at, zu_atL, zvn])
  refine zw_if (fun c3 => ?_) (fun c3 => ?_)
  · refine zw_zg32 8 (by decide) (by (try dsimp only); first | lia | grind [zu_at, zu_atL, zvn]) ?_
    refine zw_some ?_
    first | exact True.intro | ((try dsimp only); (repeat' apply And.intro) <;> first | with_reducible assumption | first | lia | grind [zu_at, zu_atL, zvn])
  refine zw_if (fun c4 => ?_) (fun c4 => ?_)
  · refine zw_zg32 8 (by decide) (by (try dsimp only); first | lia | grind [zu_at, zu_atL, zvn]) ?_
    refine zw_some ?_
    first | exact True.intro | ((try dsimp only); (repeat' apply And.intro) <;> first | with_reducible assumption | first | lia | grind [zu_at, zu_atL, zvn])
  refine zw_some ?_
  first | exact True.intro | ((try dsimp only); (repeat' apply And.intro) <;> first | with_reducible assumption | first | lia | grind [zu_at, zu_atL, zvn])
set_option maxHeartbeats 4000000 in
set_option maxRecDepth 100000 in
theorem sf_X12_groupPlace (p1 : Int32) (f1 : Nat → Int32) (h_p1 : 0 ≤ p1 ∧ p1 ≤ 13) (h_f1 : (∀ i : Nat, 0 ≤ f1 i ∧ f1 i ≤ 13)) : zw (fn_X12_groupPlace p1 f1) (fun r => 0 ≤ r ∧ r ≤ 13) := by
  unfold fn_X12_groupPlace
  refine zw_zl32 (fun s_1 => 0 ≤ s_1.1 ∧ 0 ≤ s_1.2 ∧ s_1.1 ≤ 13 ∧ s_1.2 ≤ 13 ∧ s_1.1 ≤ s_1.2) (fun s_1 => 13 - s_1.2) (by (try dsimp only); (repeat' apply And.intro) <;> first | with_reducible assumption | first | lia | grind [zu_at, zu_atL, zvn]) (by (try dsimp only); first | lia | grind [zu_at, zu_atL, zvn]) (fun s_1 back_1 Hback_1 hback_1 => ?_)
  obtain ⟨s_1_0, s_1_1⟩ := s_1
  try dsimp only at Hback_1 hback_1
  obtain ⟨Hback_1_0, Hback_1_1, Hback_1_2, Hback_1_3, Hback_1_4⟩ := Hback_1
  refine zw_zg32 28 (by decide) (by (try dsimp only); first | lia | grind [zu_at, zu_atL, zvn]) ?_
  refine zw_if (fun c1 => ?_) (fun c1 => ?_)
  · refine zw_some ?_
    first | exact True.intro | ((try dsimp only); (repeat' apply And.intro) <;> first | with_reducible assumption | first | lia | grind [zu_at, zu_atL, zvn])
  refine zw_zg32 28 (by decide) (by (try dsimp only); first | lia | grind [zu_at, zu_atL, zvn]) ?_
  refine zw_if (fun c2 => ?_) (fun c2 => ?_)
  · exact hback_1 _ (by (try dsimp only); (repeat' apply And.intro) <;> first | with_reducible assumption | first | lia | grind [zu_at, zu_atL, zvn]) (by (try dsimp only); first | lia | grind [zu_at, zu_atL, zvn]) (by (try dsimp only); first | lia | grind [zu_at, zu_atL, zvn])
  exact hback_1 _ (by (try dsimp only); (repeat' apply And.intro) <;> first | with_reducible assumption | first | lia | grind [zu_at, zu_atL, zvn]) (by (try dsimp only); first | lia | grind [zu_at, zu_atL, zvn]) (by (try dsimp only); first | lia | grind [zu_at, zu_atL, zvn])
set_option maxHeartbeats 4000000 in
set_option maxRecDepth 100000 in
theorem sf_X12_number_ (p1 : Int32) (p2 : Int32) (f1 : Nat → Int32) (f2 : Nat → Int32) (f3 : Nat → Int32) (f4 : Nat → Int32) (f5 : Nat → Int32) (f6 : Nat → Int32) (f7 : Nat → Int32) (h_f1 : (∀ i : Nat, 0 ≤ f1 i ∧ f1 i ≤ 14)) (h_f3 : (∀ i : Nat, (-1) ≤ f3 i ∧ f3 i ≤ 13)) (h_f4 : (∀ i : Nat, (-1) ≤ f4 i ∧ f4 i ≤ 13)) (h_f5 : (∀ i : Nat, 0 ≤ f5 i ∧ f5 i ≤ 13)) (h_f6 : (∀ i : Nat, (-1) ≤ f6 i ∧ f6 i ≤ 3)) : zw (fn_X12_number_ p1 p2 f1 f2 f3 f4 f5 f6 f7) (fun r => True) := by
  unfold fn_X12_number_
  refine zw_zb0 (sf_X12_isNumber p1 f1 (by first | with_reducible assumption | exact ⟨by with_reducible assumption, by with_reducible assumption⟩ | first | lia | grind [zu_at, zu_atL, zvn])) (fun o_1 ho_1 => ?_)
  obtain ⟨ho_1_0, ho_1_1, ho_1_2, ho_1_3, ho_1_4, ho_1_5⟩ := ho_1
  refine zw_if (fun c1 => ?_) (fun c1 => ?_)
  · refine zw_some ?_
    first | exact True.intro | ((try dsimp only); (repeat' apply And.intro) <;> first | with_reducible assumption | first | lia | grind [zu_at, zu_atL, zvn])
  refine zw_if (fun c2 => ?_) (fun c2 => ?_)
  · refine zw_zg32 28 (by decide) (by (try dsimp only); first | lia | grind [zu_at, zu_atL, zvn]) ?_
    refine zw_some ?_
    first | exact True.intro | ((try dsimp only); (repeat' apply And.intro) <;> first | with_reducible assumption | first | lia | grind [zu_at, zu_atL, zvn])
  refine zw_if (fun c3 => ?_) (fun c3 => ?_)
  · refine zw_zg32 28 (by decide) (by (try dsimp only); first | lia | grind [zu_at, zu_atL, zvn]) ?_
    refine zw_some ?_
    first | exact True.intro | ((try dsimp only); (repeat' apply And.intro) <;> first | with_reducible assumption | first | lia | grind [zu_at, zu_atL, zvn])
  refine zw_if (fun c4 => ?_) (fun c4 => ?_)
  · refine zw_zg32 28 (by decide) (by (try dsimp only); first | lia | grind [zu_at, zu_atL, zvn]) ?_
    refine zw_some ?_
    first | exact True.intro | ((try dsimp only); (repeat' apply And.intro) <;> first | with_reducible assumption | first | lia | grind [zu_at, zu_atL, zvn])
  refine zw_if (fun c5 => ?_) (fun c5 => ?_)
  · refine zw_zb0 (sf_X12_groupPlace p1 f5 (by first | with_reducible assumption | exact ⟨by with_reducible assumption, by with_reducible assumption⟩ | first | lia | grind [zu_at, zu_atL, zvn]) (by first | with_reducible assumption | exact ⟨by with_reducible assumption, by with_reducible assumption⟩ | first | lia | grind [zu_at, zu_atL, zvn])) (fun o_13 ho_13 => ?_)
    obtain ⟨ho_13_0, ho_13_1⟩ := ho_13
    refine zw_some ?_
    first | exact True.intro | ((try dsimp only); (repeat' apply And.intro) <;> first | with_reducible assumption | first | lia | grind [zu_at, zu_atL, zvn])
  refine zw_if (fun c6 => ?_) (fun c6 => ?_)
  · refine zw_zg32 28 (by decide) (by (try dsimp only); first | lia | grind [zu_at, zu_atL, zvn]) ?_
    refine zw_some ?_
    first | exact True.intro | ((try dsimp only); (repeat' apply And.intro) <;> first | with_reducible assumption | first | lia | grind [zu_at, zu_atL, zvn])
  refine zw_if (fun c7 => ?_) (fun c7 => ?_)
  · refine zw_zg32 28 (by decide) (by (try dsimp only); first | lia | grind [zu_at, zu_atL, zvn]) ?_
    refine zw_some ?_
    first | exact True.intro | ((try dsimp only); (repeat' apply And.intro) <;> first | with_reducible assumption | first | lia | grind [zu_at, zu_atL, zvn])
  refine zw_some ?_
  first | exact True.intro | ((try dsimp only); (repeat' apply And.intro) <;> first | with_reducible assumption | first | lia | grind [zu_at, zu_atL, zvn])
set_option maxHeartbeats 4000000 in
set_option maxRecDepth 100000 in
theorem sf_X12_told (p1 : Int32) (p2 : Int32) (f1 : Nat → Int32) (f2 : Nat → Int32) (f3 : Nat → Int32) (f4 : Nat → Int32) (f5 : Nat → Int64) (f6 : Nat → Int64) (h_f1 : (∀ i : Nat, 0 ≤ f1 i ∧ f1 i ≤ 14)) (h_f3 : (∀ i : Nat, (-1) ≤ f3 i ∧ f3 i ≤ 13)) (h_f4 : (∀ i : Nat, (-1) ≤ f4 i ∧ f4 i ≤ 13)) : zw (fn_X12_told p1 p2 f1 f2 f3 f4 f5 f6) (fun r => True) := by
  unfold fn_X12_told
  refine zw_zb0 (sf_X12_isNumber p1 f1 (by first | with_reducible assumption | exact ⟨by with_reducible assumption, by with_reducible assumption⟩ | first | lia | grind [zu_at, zu_atL, zvn])) (fun o_1 ho_1 => ?_)
  obtain ⟨ho_1_0, ho_1_1, ho_1_2, ho_1_3, ho_1_4, ho_1_5⟩ := ho_1
  refine zw_if (fun c1 => ?_) (fun c1 => ?_)
  · refine zw_some ?_
    first | exact True.intro | ((try dsimp only); (repeat' apply And.intro) <;> first | with_reducible assumption | first | lia | grind [zu_at, zu_atL, zvn])
  refine zw_zb0 (sf_X12_isIn p2.toInt64 (0 : Int64) (1 : Int64)) (fun o_6 ho_6 => ?_)
  obtain ⟨ho_6_0, ho_6_1, ho_6_2, ho_6_3, ho_6_4⟩ := ho_6
  refine zw_if (fun c2 => ?_) (fun c2 => ?_)
  · refine zw_some ?_
    first | exact True.intro | ((try dsimp only); (repeat' apply And.intro) <;> first | with_reducible assumption | first | lia | grind [zu_at, zu_atL, zvn])
  refine zw_zg32 28 (by decide) (by (try dsimp only); first | lia | grind [zu_at, zu_atL, zvn]) ?_
  refine zw_zj (fun _ => True) (fun s_12 Hj_12 => ?_) (fun j_12 hj_12 => ?_)
  · refine zw_if (fun c3 => ?_) (fun c3 => ?_)
    · refine zw_zg32 28 (by decide) (by (try dsimp only); first | lia | grind [zu_at, zu_atL, zvn]) ?_
      refine zw_some ?_
      first | exact True.intro | ((try dsimp only); (repeat' apply And.intro) <;> first | with_reducible assumption | first | lia | grind [zu_at, zu_atL, zvn])
    refine zw_zg32 28 (by decide) (by (try dsimp only); first | lia | grind [zu_at, zu_atL, zvn]) ?_
    refine zw_some ?_
    first | exact True.intro | ((try dsimp only); (repeat' apply And.intro) <;> first | with_reducible assumption | first | lia | grind [zu_at, zu_atL, zvn])
  refine zw_if (fun c4 => ?_) (fun c4 => ?_)
  · exact hj_12 _ (by first | exact True.intro | ((try dsimp only); (repeat' apply And.intro) <;> first | with_reducible assumption | first | lia | grind [zu_at, zu_atL, zvn]))
  refine zw_zj (fun s_17 => (-1) ≤ s_17 ∧ s_17 ≤ 13) (fun s_17 Hj_17 => ?_) (fun j_17 hj_17 => ?_)
  · obtain ⟨Hj_17_0, Hj_17_1⟩ := Hj_17
    refine zw_if (fun c5 => ?_) (fun c5 => ?_)
    · exact hj_12 _ (by first | exact True.intro | ((try dsimp only); (repeat' apply And.intro) <;> first | with_reducible assumption | first | lia | grind [zu_at, zu_atL, zvn]))
    refine zw_some ?_
    first | exact True.intro | ((try dsimp only); (repeat' apply And.intro) <;> first | with_reducible assumption | first | lia | grind [zu_at, zu_atL, zvn])
  refine zw_if (fun c6 => ?_) (fun c6 => ?_)
  · exact hj_17 _ (by first | exact True.intro | ((try dsimp only); (repeat' apply And.intro) <;> first | with_reducible assumption | first | lia | grind [zu_at, zu_atL, zvn]))
  exact hj_17 _ (by first | exact True.intro | ((try dsimp only); (repeat' apply And.intro) <;> first | with_reducible assumption | first | lia | grind [zu_at, zu_atL, zvn]))
set_option maxHeartbeats 4000000 in
set_option maxRecDepth 100000 in
theorem sf_X12_rounded (j0 : Int64) (j1 : Int64) (h_j1 : 1 ≤ j1 ∧ j1 ≤ 2147483647) : zw (fn_X12_rounded j0 j1) (fun r => True) := by
  unfold fn_X12_rounded
  refine zw_zb0 (sf_X12_floor (((2 : Int64) * j0) + j1) ((2 : Int64) * j1) (by first | with_reducible assumption | exact ⟨by with_reducible assumption, by with_reducible assumption⟩ | first | lia | grind [zu_at, zu_atL, zvn])) (fun o_1 ho_1 => ?_)
  refine zw_some ?_
  first | exact True.intro | ((try dsimp only); (repeat' apply And.intro) <;> first | with_reducible assumption | first | lia | grind [zu_at, zu_atL, zvn])
set_option maxHeartbeats 4000000 in
set_option maxRecDepth 100000 in
theorem sf_X12_roundedProduct (j0 : Int64) (j1 : Int64) (j2 : Int64) (h_j2 : 1 ≤ j2 ∧ j2 ≤ 2147483647) : zw (fn_X12_roundedProduct j0 j1 j2) (fun r => True) := by
  unfold fn_X12_roundedProduct
  refine zw_zb0 (sf_X12_floor ((((2 : Int64) * j0) * j1) + ((1000 : Int64) * j2)) ((2000 : Int64) * j2) (by first | with_reducible assumption | exact ⟨by with_reducible assumption, by with_reducible assumption⟩ | first | lia | grind [zu_at, zu_atL, zvn])) (fun o_1 ho_1 => ?_)
  refine zw_some ?_
  first | exact True.intro | ((try dsimp only); (repeat' apply And.intro) <;> first | with_reducible assumption | first | lia | grind [zu_at, zu_atL, zvn])
set_option maxHeartbeats 4000000 in
set_option maxRecDepth 100000 in
theorem sf_X12_two (p0 : Int32) (j1 : Int64) (j2 : Int64) (j3 : Int64) (h_j3 : 1 ≤ j3 ∧ j3 ≤ 2147483647) : zw (fn_X12_two p0 j1 j2 j3) (fun r => True) := by
  unfold fn_X12_two
  refine zw_if (fun c1 => ?_) (fun c1 => ?_)
  · refine zw_some ?_
    first | exact True.intro | ((try dsimp only); (repeat' apply And.intro) <;> first | with_reducible assumption | first | lia | grind [zu_at, zu_atL, zvn])
  refine zw_if (fun c2 => ?_) (fun c2 => ?_)
  · refine zw_some ?_
    first | exact True.intro | ((try dsimp only); (repeat' apply And.intro) <;> first | with_reducible assumption | first | lia | grind [zu_at, zu_atL, zvn])
  refine zw_if (fun c3 => ?_) (fun c3 => ?_)
  · refine zw_zb0 (sf_X12_roundedProduct j1 j2 j3 (by first | with_reducible assumption | exact ⟨by with_reducible assumption, by with_reducible assumption⟩ | first | lia | grind [zu_at, zu_atL, zvn])) (fun o_4 ho_4 => ?_)
    refine zw_some ?_
    first | exact True.intro | ((try dsimp only); (repeat' apply And.intro) <;> first | with_reducible assumption | first | lia | grind [zu_at, zu_atL, zvn])
  refine zw_if (fun c4 => ?_) (fun c4 => ?_)
  · refine zw_zb0 (sf_X12_lesser j1 j2) (fun o_9 ho_9 => ?_)
    refine zw_some ?_
    first | exact True.intro | ((try dsimp only); (repeat' apply And.intro) <;> first | with_reducible assumption | first | lia | grind [zu_at, zu_atL, zvn])
  refine zw_zb0 (sf_X12_greater j1 j2) (fun o_13 ho_13 => ?_)
  refine zw_some ?_
  first | exact True.intro | ((try dsimp only); (repeat' apply And.intro) <;> first | with_reducible assumption | first | lia | grind [zu_at, zu_atL, zvn])
set_option maxHeartbeats 4000000 in
set_option maxRecDepth 100000 in
theorem sf_X12_lowOf (p1 : Int32) (p2 : Int32) (f1 : Nat → Int32) (f2 : Nat → Int32) (f3 : Nat → Int64) (f4 : Nat → Int64) (f5 : Nat → Int64) (h_p1 : 0 ≤ p1 ∧ p1 ≤ 13) (h_p2 : 0 ≤ p2 ∧ p2 ≤ 1) (h_f1 : (∀ i : Nat, (-1) ≤ f1 i ∧ f1 i ≤ 13)) (h_f2 : (∀ i : Nat, (-1) ≤ f2 i ∧ f2 i ≤ 13)) : zw (fn_X12_lowOf p1 p2 f1 f2 f3 f4 f5) (fun r => True) := by
  unfold fn_X12_lowOf
  refine zw_zj (fun s_1 => (-1) ≤ s_1 ∧ s_1 ≤ 13) (fun s_1 Hj_1 => ?_) (fun j_1 hj_1 => ?_)
  · obtain ⟨Hj_1_0, Hj_1_1⟩ := Hj_1
    refine zw_if (fun c1 => ?_) (fun c1 => ?_)
    · refine zw_if (fun c2 => ?_) (fun c2 => ?_)
      · refine zw_zg32 28 (by decide) (by (try dsimp only); first | lia | grind [zu_at, zu_atL, zvn]) ?_
        refine zw_some ?_
        first | exact True.intro | ((try dsimp only); (repeat' apply And.intro) <;> first | with_reducible assumption | first | lia | grind [zu_at, zu_atL, zvn])
      refine zw_zg32 28 (by decide) (by (try dsimp only); first | lia | grind [zu_at, zu_atL, zvn]) ?_
      refine zw_some ?_
      first | exact True.intro | ((try dsimp only); (repeat' apply And.intro) <;> first | with_reducible assumption | first | lia | grind [zu_at, zu_atL, zvn])
    refine zw_zg32 14 (by decide) (by (try dsimp only); first | lia | grind [zu_at, zu_atL, zvn]) ?_
    refine zw_some ?_
    first | exact True.intro | ((try dsimp only); (repeat' apply And.intro) <;> first | with_reducible assumption | first | lia | grind [zu_at, zu_atL, zvn])
  refine zw_if (fun c3 => ?_) (fun c3 => ?_)
  · refine zw_zg32 28 (by decide) (by (try dsimp only); first | lia | grind [zu_at, zu_atL, zvn]) ?_
    exact hj_1 _ (by first | exact True.intro | ((try dsimp only); (repeat' apply And.intro) <;> first | with_reducible assumption | first | lia | grind [zu_at, zu_atL, zvn]))
  refine zw_zg32 28 (by decide) (by (try dsimp only); first | lia | grind [zu_at, zu_atL, zvn]) ?_
  exact hj_1 _ (by first | exact True.intro | ((try dsimp only); (repeat' apply And.intro) <;> first | with_reducible assumption | first | lia | grind [zu_at, zu_atL, zvn]))
set_option maxHeartbeats 4000000 in
set_option maxRecDepth 100000 in
theorem sf_X12_highOf (p1 : Int32) (p2 : Int32) (f1 : Nat → Int32) (f2 : Nat → Int32) (f3 : Nat → Int64) (f4 : Nat → Int64) (f5 : Nat → Int64) (h_p1 : 0 ≤ p1 ∧ p1 ≤ 13) (h_p2 : 0 ≤ p2 ∧ p2 ≤ 1) (h_f1 : (∀ i : Nat, (-1) ≤ f1 i ∧ f1 i ≤ 13)) (h_f2 : (∀ i : Nat, (-1) ≤ f2 i ∧ f2 i ≤ 13)) : zw (fn_X12_highOf p1 p2 f1 f2 f3 f4 f5) (fun r => True) := by
  unfold fn_X12_highOf
  refine zw_zj (fun s_1 => (-1) ≤ s_1 ∧ s_1 ≤ 13) (fun s_1 Hj_1 => ?_) (fun j_1 hj_1 => ?_)
  · obtain ⟨Hj_1_0, Hj_1_1⟩ := Hj_1
    refine zw_if (fun c1 => ?_) (fun c1 => ?_)
    · refine zw_if (fun c2 => ?_) (fun c2 => ?_)
      · refine zw_zg32 28 (by decide) (by (try dsimp only); first | lia | grind [zu_at, zu_atL, zvn]) ?_
        refine zw_some ?_
        first | exact True.intro | ((try dsimp only); (repeat' apply And.intro) <;> first | with_reducible assumption | first | lia | grind [zu_at, zu_atL, zvn])
      refine zw_zg32 28 (by decide) (by (try dsimp only); first | lia | grind [zu_at, zu_atL, zvn]) ?_
      refine zw_some ?_
      first | exact True.intro | ((try dsimp only); (repeat' apply And.intro) <;> first | with_reducible assumption | first | lia | grind [zu_at, zu_atL, zvn])
    refine zw_zg32 14 (by decide) (by (try dsimp only); first | lia | grind [zu_at, zu_atL, zvn]) ?_
    refine zw_some ?_
    first | exact True.intro | ((try dsimp only); (repeat' apply And.intro) <;> first | with_reducible assumption | first | lia | grind [zu_at, zu_atL, zvn])
  refine zw_if (fun c3 => ?_) (fun c3 => ?_)
  · refine zw_zg32 28 (by decide) (by (try dsimp only); first | lia | grind [zu_at, zu_atL, zvn]) ?_
    exact hj_1 _ (by first | exact True.intro | ((try dsimp only); (repeat' apply And.intro) <;> first | with_reducible assumption | first | lia | grind [zu_at, zu_atL, zvn]))
  refine zw_zg32 28 (by decide) (by (try dsimp only); first | lia | grind [zu_at, zu_atL, zvn]) ?_
  exact hj_1 _ (by first | exact True.intro | ((try dsimp only); (repeat' apply And.intro) <;> first | with_reducible assumption | first | lia | grind [zu_at, zu_atL, zvn]))
set_option maxHeartbeats 4000000 in
set_option maxRecDepth 100000 in
theorem sf_X12_laysRange (p1 : Int32) (v0_33 : Int32) (w0_34 : Int64) (f1 : Nat → Int32) (f2 : Nat → Int32) (f3 : Nat → Int32) (f4 : Nat → Int64) (f5 : Nat → Int64) (f6 : Nat → Int64) (f7 : Nat → Int64) (h_p1 : 0 ≤ p1 ∧ p1 ≤ 13) (h_f2 : (∀ i : Nat, (-1) ≤ f2 i ∧ f2 i ≤ 13)) (h_f3 : (∀ i : Nat, (-1) ≤ f3 i ∧ f3 i ≤ 13)) : zw (fn_X12_laysRange p1 v0_33 w0_34 f1 f2 f3 f4 f5 f6 f7) (fun r => True) := by
  unfold fn_X12_laysRange
  refine zw_zg32 28 (by decide) (by (try dsimp only); first | lia | grind [zu_at, zu_atL, zvn]) ?_
  refine zw_if (fun c1 => ?_) (fun c1 => ?_)
  · refine zw_zj (fun s_72 => True) (fun s_72 Hj_72 => ?_) (fun j_72 hj_72 => ?_)
    · refine zw_zg32 28 (by decide) (by (try dsimp only); first | lia | grind [zu_at, zu_atL, zvn]) ?_
      refine zw_zg32 14 (by decide) (by (try dsimp only); first | lia | grind [zu_at, zu_atL, zvn]) ?_
      refine zw_some ?_
      first | exact True.intro | ((try dsimp only); (repeat' apply And.intro) <;> first | with_reducible assumption | first | lia | grind [zu_at, zu_atL, zvn])
    refine zw_if (fun c2 => ?_) (fun c2 => ?_)
    · exact hj_72 _ (by first | exact True.intro | ((try dsimp only); (repeat' apply And.intro) <;> first | with_reducible assumption | first | lia | grind [zu_at, zu_atL, zvn]))
    exact hj_72 _ (by first | exact True.intro | ((try dsimp only); (repeat' apply And.intro) <;> first | with_reducible assumption | first | lia | grind [zu_at, zu_atL, zvn]))
  refine zw_zb0 (sf_X12_lowOf p1 0 f2 f3 f4 f5 f6 (by first | with_reducible assumption | exact ⟨by with_reducible assumption, by with_reducible assumption⟩ | first | lia | grind [zu_at, zu_atL, zvn]) (by first | with_reducible assumption | exact ⟨by with_reducible assumption, by with_reducible assumption⟩ | first | lia | grind [zu_at, zu_atL, zvn]) (by first | with_reducible assumption | exact ⟨by with_reducible assumption, by with_reducible assumption⟩ | first | lia | grind [zu_at, zu_atL, zvn]) (by first | with_reducible assumption | exact ⟨by with_reducible assumption, by with_reducible assumption⟩ | first | lia | grind [zu_at, zu_atL, zvn])) (fun o_3 ho_3 => ?_)
  refine zw_zb0 (sf_X12_highOf p1 0 f2 f3 f7 f5 f6 (by first | with_reducible assumption | exact ⟨by with_reducible assumption, by with_reducible assumption⟩ | first | lia | grind [zu_at, zu_atL, zvn]) (by first | with_reducible assumption | exact ⟨by with_reducible assumption, by with_reducible assumption⟩ | first | lia | grind [zu_at, zu_atL, zvn]) (by first | with_reducible assumption | exact ⟨by with_reducible assumption, by with_reducible assumption⟩ | first | lia | grind [zu_at, zu_atL, zvn]) (by first | with_reducible assumption | exact ⟨by with_reducible assumption, by with_reducible assumption⟩ | first | lia | grind [zu_at, zu_atL, zvn])) (fun o_7 ho_7 => ?_)
  refine zw_zb0 (sf_X12_lowOf p1 1 f2 f3 f4 f5 f6 (by first | with_reducible assumption | exact ⟨by with_reducible assumption, by with_reducible assumption⟩ | first | lia | grind [zu_at, zu_atL, zvn]) (by first | with_reducible assumption | exact ⟨by with_reducible assumption, by with_reducible assumption⟩ | first | lia | grind [zu_at, zu_atL, zvn]) (by first | with_reducible assumption | exact ⟨by with_reducible assumption, by with_reducible assumption⟩ | first | lia | grind [zu_at, zu_atL, zvn]) (by first | with_reducible assumption | exact ⟨by with_reducible assumption, by with_reducible assumption⟩ | first | lia | grind [zu_at, zu_atL, zvn])) (fun o_11 ho_11 => ?_)
  refine zw_zb0 (sf_X12_highOf p1 1 f2 f3 f7 f5 f6 (by first | with_reducible assumption | exact ⟨by with_reducible assumption, by with_reducible assumption⟩ | first | lia | grind [zu_at, zu_atL, zvn]) (by first | with_reducible assumption | exact ⟨by with_reducible assumption, by with_reducible assumption⟩ | first | lia | grind [zu_at, zu_atL, zvn]) (by first | with_reducible assumption | exact ⟨by with_reducible assumption, by with_reducible assumption⟩ | first | lia | grind [zu_at, zu_atL, zvn]) (by first | with_reducible assumption | exact ⟨by with_reducible assumption, by with_reducible assumption⟩ | first | lia | grind [zu_at, zu_atL, zvn])) (fun o_15 ho_15 => ?_)
  refine zw_if (fun c3 => ?_) (fun c3 => ?_)
  · refine zw_zg32 14 (by decide) (by (try dsimp only); first | lia | grind [zu_at, zu_atL, zvn]) ?_
    refine zw_some ?_
    first | exact True.intro | ((try dsimp only); (repeat' apply And.intro) <;> first | with_reducible assumption | first | lia | grind [zu_at, zu_atL, zvn])
  refine zw_if (fun c4 => ?_) (fun c4 => ?_)
  · refine zw_zb0 (sf_X12_two 3 o_3 o_11 (1 : Int64) (by first | with_reducible assumption | exact ⟨by with_reducible assumption, by with_reducible assumption⟩ | first | lia | grind [zu_at, zu_atL, zvn])) (fun o_30 ho_30 => ?_)
    refine zw_zb0 (sf_X12_two 3 o_3 o_15 (1 : Int64) (by first | with_reducible assumption | exact ⟨by with_reducible assumption, by with_reducible assumption⟩ | first | lia | grind [zu_at, zu_atL, zvn])) (fun o_34 ho_34 => ?_)
    refine zw_zb0 (sf_X12_two 3 o_7 o_11 (1 : Int64) (by first | with_reducible assumption | exact ⟨by with_reducible assumption, by with_reducible assumption⟩ | first | lia | grind [zu_at, zu_atL, zvn])) (fun o_38 ho_38 => ?_)
    refine zw_zb0 (sf_X12_two 3 o_7 o_15 (1 : Int64) (by first | with_reducible assumption | exact ⟨by with_reducible assumption, by with_reducible assumption⟩ | first | lia | grind [zu_at, zu_atL, zvn])) (fun o_42 ho_42 => ?_)
    refine zw_zb0 (sf_X12_lesser o_30 o_34) (fun o_46 ho_46 => ?_)
    refine zw_zb0 (sf_X12_lesser o_38 o_42) (fun o_50 ho_50 => ?_)
    refine zw_zb0 (sf_X12_lesser o_46 o_50) (fun o_54 ho_54 => ?_)
    refine zw_zg32 14 (by decide) (by (try dsimp only); first | lia | grind [zu_at, zu_atL, zvn]) ?_
    refine zw_zb0 (sf_X12_greater o_30 o_34) (fun o_59 ho_59 => ?_)
    refine zw_zb0 (sf_X12_greater o_38 o_42) (fun o_63 ho_63 => ?_)
    refine zw_zb0 (sf_X12_greater o_59 o_63) (fun o_67 ho_67 => ?_)
    refine zw_some ?_
    first | exact True.intro | ((try dsimp only); (repeat' apply And.intro) <;> first | with_reducible assumption | first | lia | grind [zu_at, zu_atL, zvn])
  refine zw_zb0 (sf_X12_two (f1 p1.toNatClampNeg) o_3 o_11 (1 : Int64) (by first | with_reducible assumption | exact ⟨by with_reducible assumption, by with_reducible assumption⟩ | first | lia | grind [zu_at, zu_atL, zvn])) (fun o_21 ho_21 => ?_)
  refine zw_zg32 14 (by decide) (by (try dsimp only); first | lia | grind [zu_at, zu_atL, zvn]) ?_
  refine zw_zb0 (sf_X12_two (f1 p1.toNatClampNeg) o_7 o_15 (1 : Int64) (by first | with_reducible assumption | exact ⟨by with_reducible assumption, by with_reducible assumption⟩ | first | lia | grind [zu_at, zu_atL, zvn])) (fun o_26 ho_26 => ?_)
  refine zw_some ?_
  first | exact True.intro | ((try dsimp only); (repeat' apply And.intro) <;> first | with_reducible assumption | first | lia | grind [zu_at, zu_atL, zvn])
set_option maxHeartbeats 4000000 in
set_option maxRecDepth 100000 in
theorem sf_X12_mostOf (p1 : Int32) (f1 : Nat → Int64) (f2 : Nat → Int64) (h_p1 : 0 ≤ p1 ∧ p1 ≤ 13) : zw (fn_X12_mostOf p1 f1 f2) (fun r => True) := by
  unfold fn_X12_mostOf
  refine zw_zg32 14 (by decide) (by (try dsimp only); first | lia | grind [zu_at, zu_atL, zvn]) ?_
  refine zw_zb0 (sf_X12_amount (f1 p1.toNatClampNeg)) (fun o_2 ho_2 => ?_)
  refine zw_zb0 (sf_X12_amount (f2 p1.toNatClampNeg)) (fun o_6 ho_6 => ?_)
  refine zw_zb0 (sf_X12_greater o_2 o_6) (fun o_10 ho_10 => ?_)
  refine zw_some ?_
  first | exact True.intro | ((try dsimp only); (repeat' apply And.intro) <;> first | with_reducible assumption | first | lia | grind [zu_at, zu_atL, zvn])
set_option maxHeartbeats 4000000 in
set_option maxRecDepth 100000 in
theorem sf_X12_isGreatPart (p1 : Int32) (f1 : Nat → Int32) (h_p1 : (-1) ≤ p1 ∧ p1 ≤ 13) (h_f1 : (∀ i : Nat, 0 ≤ f1 i ∧ f1 i ≤ 1)) : zw (fn_X12_isGreatPart p1 f1) (fun r => 0 ≤ r ∧ r ≤ 1 ∧ r ≤ p1 + 1 ∧ (¬ r = 0 → 0 ≤ p1 ∧ 1 ≤ r ∧ (f1 p1.toNatClampNeg) ≤ 1 ∧ 1 ≤ (f1 p1.toNatClampNeg)) ∧ (r = 1 → 0 ≤ p1 ∧ (f1 p1.toNatClampNeg) ≤ 1 ∧ 1 ≤ (f1 p1.toNatClampNeg) ∧ (f1 p1.toNatClampNeg) ≤ r) ∧ (¬ r = 1 → r ≤ 0)) := by
  unfold fn_X12_isGreatPart
  refine zw_if (fun c1 => ?_) (fun c1 => ?_)
  · refine zw_some ?_
    first | exact True.intro | ((try dsimp only); (repeat' apply And.intro) <;> first | with_reducible assumption | first | lia | grind [zu_at, zu_atL, zvn])
  refine zw_zg32 14 (by decide) (by (try dsimp only); first | lia | grind [zu_at, zu_atL, zvn]) ?_
  refine zw_if (fun c2 => ?_) (fun c2 => ?_)
  · refine zw_some ?_
    first | exact True.intro | ((try dsimp only); (repeat' apply And.intro) <;> first | with_reducible assumption | first | lia | grind [zu_at, zu_atL, zvn])
  refine zw_some ?_
  first | exact True.intro | ((try dsimp only); (repeat' apply And.intro) <;> first | with_reducible assumption | first | lia | grind [zu_at, zu_atL, zvn])
set_option maxHeartbeats 4000000 in
set_option maxRecDepth 100000 in
theorem sf_X12_range (p1 : Int32) (p2 : Int32) (v0_33 : Int32) (w0_34 : Int64) (f1 : Nat → Int32) (f2 : Nat → Int32) (f3 : Nat → Int32) (f4 : Nat → Int32) (f5 : Nat → Int32) (f6 : Nat → Int64) (f7 : Nat → Int64) (f8 : Nat → Int64) (f9 : Nat → Int64) (h_p2 : 0 ≤ p2 ∧ p2 ≤ 1) (h_f1 : (∀ i : Nat, 0 ≤ f1 i ∧ f1 i ≤ 14)) (h_f2 : (∀ i : Nat, (-1) ≤ f2 i ∧ f2 i ≤ 13)) (h_f3 : (∀ i : Nat, 0 ≤ f3 i ∧ f3 i ≤ 1)) (h_f4 : (∀ i : Nat, (-1) ≤ f4 i ∧ f4 i ≤ 13)) : zw (fn_X12_range p1 p2 v0_33 w0_34 f1 f2 f3 f4 f5 f6 f7 f8 f9) (fun r => (∀ i : Nat, 0 ≤ r.2.2.1 i ∧ r.2.2.1 i ≤ 1)) := by
  unfold fn_X12_range
  refine zw_zb0 (sf_X12_isNumber p1 f1 (by first | with_reducible assumption | exact ⟨by with_reducible assumption, by with_reducible assumption⟩ | first | lia | grind [zu_at, zu_atL, zvn])) (fun o_1 ho_1 => ?_)
  obtain ⟨ho_1_0, ho_1_1, ho_1_2, ho_1_3, ho_1_4, ho_1_5⟩ := ho_1
  refine zw_if (fun c1 => ?_) (fun c1 => ?_)
  · refine zw_some ?_
    first | exact True.intro | ((try dsimp only); (repeat' apply And.intro) <;> first | with_reducible assumption | first | lia | grind [zu_at, zu_atL, zvn])
  refine zw_zl32 (fun s_6 => (∀ i : Nat, 0 ≤ s_6.2.2.2 i ∧ s_6.2.2.2 i ≤ 1) ∧ 0 ≤ s_6.1 ∧ s_6.1 ≤ 14 ∧ s_6.1 ≤ p1 + 1) (fun s_6 => 14 - s_6.1) (by (try dsimp only); (repeat' apply And.intro) <;> first | with_reducible assumption | first | lia | grind [zu_at, zu_atL, zvn]) (by (try dsimp only); first | lia | grind [zu_at, zu_atL, zvn]) (fun s_6 back_6 Hback_6 hback_6 => ?_)
  obtain ⟨s_6_0, s_6_1, s_6_2, s_6_3⟩ := s_6
  try dsimp only at Hback_6 hback_6
  obtain ⟨Hback_6_0, Hback_6_1, Hback_6_2, Hback_6_3⟩ := Hback_6
  refine zw_if (fun c2 => ?_) (fun c2 => ?_)
  · refine zw_zg32 14 (by decide) (by (try dsimp only); first | lia | grind [zu_at, zu_atL, zvn]) ?_
    refine zw_if (fun c3 => ?_) (fun c3 => ?_)
    · refine zw_if (fun c4 => ?_) (fun c4 => ?_)
      · refine zw_some ?_
        first | exact True.intro | ((try dsimp only); (repeat' apply And.intro) <;> first | with_reducible assumption | first | lia | grind [zu_at, zu_atL, zvn])
      refine zw_some ?_
      first | exact True.intro | ((try dsimp only); (repeat' apply And.intro) <;> first | with_reducible assumption | first | lia | grind [zu_at, zu_atL, zvn])
    refine zw_some ?_
    first | exact True.intro | ((try dsimp only); (repeat' apply And.intro) <;> first | with_reducible assumption | first | lia | grind [zu_at, zu_atL, zvn])
  refine zw_zg32 28 (by decide) (by (try dsimp only); first | lia | grind [zu_at, zu_atL, zvn]) ?_
  refine zw_zb0 (sf_X12_isGreatPart (f2 s_6_0.toNatClampNeg) s_6_3 (by first | with_reducible assumption | exact ⟨by with_reducible assumption, by with_reducible assumption⟩ | first | lia | grind [zu_at, zu_atL, zvn]) (by first | with_reducible assumption | exact ⟨by with_reducible assumption, by with_reducible assumption⟩ | first | lia | grind [zu_at, zu_atL, zvn])) (fun o_12 ho_12 => ?_)
  obtain ⟨ho_12_0, ho_12_1, ho_12_2, ho_12_3, ho_12_4, ho_12_5⟩ := ho_12
  refine zw_zj (fun s_16 => 0 ≤ s_16 ∧ s_16 ≤ 1 ∧ o_12 ≤ s_16) (fun s_16 Hj_16 => ?_) (fun j_16 hj_16 => ?_)
  · obtain ⟨Hj_16_0, Hj_16_1, Hj_16_2⟩ := Hj_16
    refine zw_zg32 14 (by decide) (by (try dsimp only); first | lia | grind [zu_at, zu_atL, zvn]) ?_
    refine zw_zn (fun x_18 ex_18 => ?_)
    refine zw_if (fun c5 => ?_) (fun c5 => ?_)
    · refine zw_zb0 (sf_X12_laysRange s_6_0 (-1) w0_34 f5 f2 f4 s_6_1 f7 f8 s_6_2 (by first | with_reducible assumption | exact ⟨by with_reducible assumption, by with_reducible assumption⟩ | first | lia | grind [zu_at, zu_atL, zvn]) (by first | with_reducible assumption | exact ⟨by with_reducible assumption, by with_reducible assumption⟩ | first | lia | grind [zu_at, zu_atL, zvn]) (by first | with_reducible assumption | exact ⟨by with_reducible assumption, by with_reducible assumption⟩ | first | lia | grind [zu_at, zu_atL, zvn])) (fun o_20 ho_20 => ?_)
      obtain ⟨o_20_0, o_20_1⟩ := o_20
      try dsimp only at ho_20
      refine zw_zb0 (sf_X12_mostOf s_6_0 o_20_0 o_20_1 (by first | with_reducible assumption | exact ⟨by with_reducible assumption, by with_reducible assumption⟩ | first | lia | grind [zu_at, zu_atL, zvn])) (fun o_24 ho_24 => ?_)
      refine zw_ifc (lg_cmp_le _ _) (fun c6 => ?_) (fun c6 => ?_)
      · refine zw_zn1 ?_
        exact hback_6 _ (by (try dsimp only); (repeat' apply And.intro) <;> first | with_reducible assumption | first | lia | grind [zu_at, zu_atL, zvn]) (by (try dsimp only); first | lia | grind [zu_at, zu_atL, zvn]) (by (try dsimp only); first | lia | grind [zu_at, zu_atL, zvn])
      refine zw_zn1 ?_
      exact hback_6 _ (by (try dsimp only); (repeat' apply And.intro) <;> first | with_reducible assumption | first | lia | grind [zu_at, zu_atL, zvn]) (by (try dsimp only); first | lia | grind [zu_at, zu_atL, zvn]) (by (try dsimp only); first | lia | grind [zu_at, zu_atL, zvn])
    exact hback_6 _ (by (try dsimp only); (repeat' apply And.intro) <;> first | with_reducible assumption | first | lia | grind [zu_at, zu_atL, zvn]) (by (try dsimp only); first | lia | grind [zu_at, zu_atL, zvn]) (by (try dsimp only); first | lia | grind [zu_at, zu_atL, zvn])
  refine zw_zj (fun _ => True) (fun s_31 Hj_31 => ?_) (fun j_31 hj_31 => ?_)
  · exact hj_16 _ (by first | exact True.intro | ((try dsimp only); (repeat' apply And.intro) <;> first | with_reducible assumption | first | lia | grind [zu_at, zu_atL, zvn]))
  refine zw_if (fun c7 => ?_) (fun c7 => ?_)
  · refine zw_zb0 (sf_X12_isGreatPart (f4 s_6_0.toNatClampNeg) s_6_3 (by first | with_reducible assumption | exact ⟨by with_reducible assumption, by with_reducible assumption⟩ | first | lia | grind [zu_at, zu_atL, zvn]) (by first | with_reducible assumption | exact ⟨by with_reducible assumption, by with_reducible assumption⟩ | first | lia | grind [zu_at, zu_atL, zvn])) (fun o_33 ho_33 => ?_)
    obtain ⟨ho_33_0, ho_33_1, ho_33_2, ho_33_3, ho_33_4, ho_33_5⟩ := ho_33
    refine zw_if (fun c8 => ?_) (fun c8 => ?_)
    · exact hj_16 _ (by first | exact True.intro | ((try dsimp only); (repeat' apply And.intro) <;> first | with_reducible assumption | first | lia | grind [zu_at, zu_atL, zvn]))
    exact hj_31 _ (by first | exact True.intro | ((try dsimp only); (repeat' apply And.intro) <;> first | with_reducible assumption | first | lia | grind [zu_at, zu_atL, zvn]))
  exact hj_31 _ (by first | exact True.intro | ((try dsimp only); (repeat' apply And.intro) <;> first | with_reducible assumption | first | lia | grind [zu_at, zu_atL, zvn]))
