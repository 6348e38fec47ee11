set_option maxHeartbeats 4000000 in
set_option maxRecDepth 100000 in
theorem sf_X12_copiesTask (f1 : Nat → Int32) (f2 : Nat → Int32) (f3 : Nat → Int32) (f4 : Nat → Int32) (f5 : Nat → Int32) (f6 : Nat → Int32) (f7 : Nat → Int32) (f8 : Nat → Int32) (f9 : Nat → Int32) (f10 : Nat → Int32) (f11 : Nat → Int32) (f12 : Nat → Int64) (f13 : Nat → Int64) (f14 : Nat → Int32) (f15 : Nat → Int32) (f16 : Nat → Int32) (h_f1 : (∀ i : Nat, 0 ≤ f1 i ∧ f1 i ≤ 4)) (h_f2 : (∀ i : Nat, 0 ≤ f2 i ∧ f2 i ≤ 14)) (h_f10 : (∀ i : Nat, (-1) ≤ f10 i ∧ f10 i ≤ 13)) (h_f11 : (∀ i : Nat, (-1) ≤ f11 i ∧ f11 i ≤ 13)) (h_f14 : (∀ i : Nat, (-1) ≤ f14 i ∧ f14 i ≤ 3)) (h_f16 : (∀ i : Nat, 0 ≤ f16 i ∧ f16 i ≤ 13)) : zw (fn_X12_copiesTask f1 f2 f3 f4 f5 f6 f7 f8 f9 f10 f11 f12 f13 f14 f15 f16) (fun r => (∀ i : Nat, 0 ≤ r.1 i ∧ r.1 i ≤ 4) ∧ (∀ i : Nat, 0 ≤ r.2.1 i ∧ r.2.1 i ≤ 14) ∧ (∀ i : Nat, (-1) ≤ r.2.2.2.2.2.2.2.2.2.1 i ∧ r.2.2.2.2.2.2.2.2.2.1 i ≤ 13) ∧ (∀ i : Nat, (-1) ≤ r.2.2.2.2.2.2.2.2.2.2.1 i ∧ r.2.2.2.2.2.2.2.2.2.2.1 i ≤ 13) ∧ (∀ i : Nat, (-1) ≤ r.2.2.2.2.2.2.2.2.2.2.2.2.2.1 i ∧ r.2.2.2.2.2.2.2.2.2.2.2.2.2.1 i ≤ 3) ∧ (∀ i : Nat, 0 ≤ r.2.2.2.2.2.2.2.2.2.2.2.2.2.2.2 i ∧ r.2.2.2.2.2.2.2.2.2.2.2.2.2.2.2 i ≤ 13) ∧ r.1 (0 : Int32).toNatClampNeg = f1 (1 : Int32).toNatClampNeg ∧ r.2.1 (0 : Int32).toNatClampNeg = f2 (1 : Int32).toNatClampNeg ∧ (∀ x : Int32, 0 ≤ x → x < 4 → r.2.2.2.2.1 x.toNatClampNeg = f5 (4 + x).toNatClampNeg ∧ r.2.2.2.2.1 (4 + x).toNatClampNeg = f5 (4 + x).toNatClampNeg) ∧ (∀ k : Int32, 0 ≤ k → k < 14 → r.2.2.2.2.2.2.2.2.2.2.2.2.2.1 k.toNatClampNeg = f14 (14 + k).toNatClampNeg)) := by
  unfold fn_X12_copiesTask
  refine zw_zn1 ?_
  refine zw_zn1 ?_
  refine zw_zn1 ?_
  refine zw_zl32 (fun s_4 => (∀ x : Int32, 0 ≤ x → x < s_4.1 → s_4.2.2.1 x.toNatClampNeg = f5 (4 + x).toNatClampNeg) ∧ (∀ x : Int32, 4 ≤ x → s_4.2.2.1 x.toNatClampNeg = f5 x.toNatClampNeg) ∧ 0 ≤ s_4.1 ∧ s_4.1 ≤ 4) (fun s_4 => 4 - s_4.1) (by (try dsimp only); (repeat' apply And.intro) <;> first | with_reducible assumption | first | lia | grind [zu_at, zu_atL, zvn, zinj']) (by (try dsimp only); first | lia | grind [zu_at, zu_atL, zvn, zinj']) (fun s_4 back_4 Hback_4 hback_4 => ?_)
  obtain ⟨s_4_0, s_4_1, s_4_2, s_4_3, s_4_4⟩ := s_4
  try dsimp only at Hback_4 hback_4
  obtain ⟨Hback_4_0, Hback_4_1, Hback_4_2, Hback_4_3⟩ := Hback_4
  refine zw_if (fun c1 => ?_) (fun c1 => ?_)
  · refine zw_zl32 (fun s_6 => (∀ x : Int32, 0 ≤ x → x < s_6.1 → s_6.2.2.2.2.2.2.2.1 x.toNatClampNeg = f14 (14 + x).toNatClampNeg) ∧ (∀ x : Int32, 14 ≤ x → s_6.2.2.2.2.2.2.2.1 x.toNatClampNeg = f14 x.toNatClampNeg) ∧ (∀ i : Nat, (-1) ≤ s_6.2.2.2.1 i ∧ s_6.2.2.2.1 i ≤ 13) ∧ (∀ i : Nat, (-1) ≤ s_6.2.2.2.2.1 i ∧ s_6.2.2.2.2.1 i ≤ 13) ∧ (∀ i : Nat, (-1) ≤ s_6.2.2.2.2.2.2.2.1 i ∧ s_6.2.2.2.2.2.2.2.1 i ≤ 3) ∧ (∀ i : Nat, 0 ≤ s_6.2.2.2.2.2.2.2.2.2 i ∧ s_6.2.2.2.2.2.2.2.2.2 i ≤ 13) ∧ 0 ≤ s_6.1 ∧ s_6.1 ≤ 14) (fun s_6 => 14 - s_6.1) (by (try dsimp only); (repeat' apply And.intro) <;> first | with_reducible assumption | first | lia | grind [zu_at, zu_atL, zvn, zinj']) (by (try dsimp only); first | lia | grind [zu_at, zu_atL, zvn, zinj']) (fun s_6 back_6 Hback_6 hback_6 => ?_)
    obtain ⟨s_6_0, s_6_1, s_6_2, s_6_3, s_6_4, s_6_5, s_6_6, s_6_7, s_6_8, s_6_9⟩ := s_6
    try dsimp only at Hback_6 hback_6
    obtain ⟨Hback_6_0, Hback_6_1, Hback_6_2, Hback_6_3, Hback_6_4, Hback_6_5, Hback_6_6, Hback_6_7⟩ := Hback_6
    refine zw_if (fun c2 => ?_) (fun c2 => ?_)
    · refine zw_some ?_
      first | exact True.intro | ((try dsimp only); (repeat' apply And.intro) <;> first | with_reducible assumption | first | lia | grind [zu_at, zu_atL, zvn, zinj'])
    refine zw_zg32 28 (by decide) (by (try dsimp only); first | lia | grind [zu_at, zu_atL, zvn, zinj']) ?_
    refine zw_zg32 28 (by decide) (by (try dsimp only); first | lia | grind [zu_at, zu_atL, zvn, zinj']) ?_
    refine zw_zn1 ?_
    refine zw_zn1 ?_
    refine zw_zn1 ?_
    refine zw_zn1 ?_
    refine zw_zn1 ?_
    refine zw_zn1 ?_
    refine zw_zn1 ?_
    refine zw_zn1 ?_
    refine zw_zn1 ?_
    exact hback_6 _ (by (try dsimp only); (repeat' apply And.intro) <;> first | with_reducible assumption | first | lia | grind [zu_at, zu_atL, zvn, zinj']) (by (try dsimp only); first | lia | grind [zu_at, zu_atL, zvn, zinj']) (by (try dsimp only); first | lia | grind [zu_at, zu_atL, zvn, zinj'])
  refine zw_zg32 8 (by decide) (by (try dsimp only); first | lia | grind [zu_at, zu_atL, zvn, zinj']) ?_
  refine zw_zg32 8 (by decide) (by (try dsimp only); first | lia | grind [zu_at, zu_atL, zvn, zinj']) ?_
  refine zw_zn1 ?_
  refine zw_zn1 ?_
  refine zw_zn1 ?_
  refine zw_zn1 ?_
  exact hback_4 _ (by (try dsimp only); (repeat' apply And.intro) <;> first | with_reducible assumption | first | lia | grind [zu_at, zu_atL, zvn, zinj']) (by (try dsimp only); first | lia | grind [zu_at, zu_atL, zvn, zinj']) (by (try dsimp only); first | lia | grind [zu_at, zu_atL, zvn, zinj'])
set_option maxHeartbeats 4000000 in
set_option maxRecDepth 100000 in
theorem sf_X12_beginsChoice (f1 : Nat → Int32) (f2 : Nat → Int32) (f3 : Nat → Int32) (f4 : Nat → Int32) (h_f1 : (∀ i : Nat, 0 ≤ f1 i ∧ f1 i ≤ 14)) (h_f2 : (∀ i : Nat, 0 ≤ f2 i ∧ f2 i ≤ 3)) (h_f3 : (∀ i : Nat, (-1) ≤ f3 i ∧ f3 i ≤ 3)) (h_f4 : (∀ i : Nat, 0 ≤ f4 i ∧ f4 i ≤ 13)) : zw (fn_X12_beginsChoice f1 f2 f3 f4) (fun r => 0 ≤ r.1 ∧ r.1 ≤ 1 ∧ (∀ i : Nat, 0 ≤ r.2 i ∧ r.2 i ≤ 3) ∧ r.1 ≤ (f1 (0 : Int32).toNatClampNeg) + 1 ∧ (∀ i : Nat, r.2 i = f2 i ∨ r.2 i = 0 ∨ ∃ k : Int32, 0 ≤ k ∧ k < f1 (0 : Int32).toNatClampNeg ∧ ¬ f3 k.toNatClampNeg = (-1) ∧ r.2 i = f3 k.toNatClampNeg)) := by
  unfold fn_X12_beginsChoice
  refine zw_zl32 (fun s_1 => (∀ i : Nat, s_1.2 i = f2 i ∨ s_1.2 i = 0 ∨ ∃ k : Int32, 0 ≤ k ∧ k < f1 (0 : Int32).toNatClampNeg ∧ ¬ f3 k.toNatClampNeg = (-1) ∧ s_1.2 i = f3 k.toNatClampNeg) ∧ (∀ i : Nat, 0 ≤ s_1.2 i ∧ s_1.2 i ≤ 3) ∧ 0 ≤ s_1.1 ∧ s_1.1 ≤ 14) (fun s_1 => 14 - s_1.1) (by (try dsimp only); (repeat' apply And.intro) <;> first | with_reducible assumption | first | lia | grind [zu_at, zu_atL, zvn]) (by (try dsimp only); first | lia | grind [zu_at, zu_atL, zvn]) (fun s_1 back_1 Hback_1 hback_1 => ?_)
  obtain ⟨s_1_0, s_1_1⟩ := s_1
  try dsimp only at Hback_1 hback_1
  obtain ⟨Hback_1_0, Hback_1_1, Hback_1_2, Hback_1_3⟩ := Hback_1
  refine zw_if (fun c1 => ?_) (fun c1 => ?_)
  · refine zw_zl32 (fun s_3 => (∀ i : Nat, s_3.2.2 i = f2 i ∨ s_3.2.2 i = 0 ∨ ∃ k : Int32, 0 ≤ k ∧ k < f1 (0 : Int32).toNatClampNeg ∧ ¬ f3 k.toNatClampNeg = (-1) ∧ s_3.2.2 i = f3 k.toNatClampNeg) ∧ (∀ i : Nat, 0 ≤ s_3.2.2 i ∧ s_3.2.2 i ≤ 3) ∧ 0 ≤ s_3.1 ∧ s_3.1 ≤ 14 ∧ 0 ≤ s_3.2.1 ∧ s_3.2.1 ≤ 1 ∧ s_3.1 ≤ s_1_0 ∧ s_3.1 ≤ (f1 (0 : Int32).toNatClampNeg)) (fun s_3 => 14 - s_3.1) (by (try dsimp only); (repeat' apply And.intro) <;> first | with_reducible assumption | first | lia | grind [zu_at, zu_atL, zvn]) (by (try dsimp only); first | lia | grind [zu_at, zu_atL, zvn]) (fun s_3 back_3 Hback_3 hback_3 => ?_)
    obtain ⟨s_3_0, s_3_1, s_3_2⟩ := s_3
    try dsimp only at Hback_3 hback_3
    obtain ⟨Hback_3_0, Hback_3_1, Hback_3_2, Hback_3_3, Hback_3_4, Hback_3_5, Hback_3_6, Hback_3_7⟩ := Hback_3
    refine zw_if (fun c2 => ?_) (fun c2 => ?_)
    · refine zw_some ?_
      first | exact True.intro | ((try dsimp only); (repeat' apply And.intro) <;> first | with_reducible assumption | first | lia | grind [zu_at, zu_atL, zvn])
    refine zw_zg32 28 (by decide) (by (try dsimp only); first | lia | grind [zu_at, zu_atL, zvn]) ?_
    refine zw_if (fun c3 => ?_) (fun c3 => ?_)
    · exact hback_3 _ (by (try dsimp only); (repeat' apply And.intro) <;> first | with_reducible assumption | first | lia | grind [zu_at, zu_atL, zvn]) (by (try dsimp only); first | lia | grind [zu_at, zu_atL, zvn]) (by (try dsimp only); first | lia | grind [zu_at, zu_atL, zvn])
    refine zw_zl32 (fun s_7 => (∀ i : Nat, s_7.2.2 i = f2 i ∨ s_7.2.2 i = 0 ∨ ∃ k : Int32, 0 ≤ k ∧ k < f1 (0 : Int32).toNatClampNeg ∧ ¬ f3 k.toNatClampNeg = (-1) ∧ s_7.2.2 i = f3 k.toNatClampNeg) ∧ (∀ i : Nat, 0 ≤ s_7.2.2 i ∧ s_7.2.2 i ≤ 3) ∧ 0 ≤ s_7.1 ∧ s_7.1 ≤ 14 ∧ 0 ≤ s_7.2.1 ∧ s_7.2.1 ≤ 1 ∧ s_7.1 ≤ s_1_0 ∧ s_7.2.1 ≤ s_3_1 ∧ s_7.1 ≤ (f1 (0 : Int32).toNatClampNeg)) (fun s_7 => 14 - s_7.1) (by (try dsimp only); (repeat' apply And.intro) <;> first | with_reducible assumption | first | lia | grind [zu_at, zu_atL, zvn]) (by (try dsimp only); first | lia | grind [zu_at, zu_atL, zvn]) (fun s_7 back_7 Hback_7 hback_7 => ?_)
    obtain ⟨s_7_0, s_7_1, s_7_2⟩ := s_7
    try dsimp only at Hback_7 hback_7
    obtain ⟨Hback_7_0, Hback_7_1, Hback_7_2, Hback_7_3, Hback_7_4, Hback_7_5, Hback_7_6, Hback_7_7, Hback_7_8⟩ := Hback_7
    refine zw_if (fun c4 => ?_) (fun c4 => ?_)
    · exact hback_3 _ (by (try dsimp only); (repeat' apply And.intro) <;> first | with_reducible assumption | first | lia | grind [zu_at, zu_atL, zvn]) (by (try dsimp only); first | lia | grind [zu_at, zu_atL, zvn]) (by (try dsimp only); first | lia | grind [zu_at, zu_atL, zvn])
    refine zw_zg32 28 (by decide) (by (try dsimp only); first | lia | grind [zu_at, zu_atL, zvn]) ?_
    refine zw_zg32 28 (by decide) (by (try dsimp only); first | lia | grind [zu_at, zu_atL, zvn]) ?_
    refine zw_if (fun c5 => ?_) (fun c5 => ?_)
    · refine zw_zg32 14 (by decide) (by (try dsimp only); first | lia | grind [zu_at, zu_atL, zvn]) ?_
      refine zw_if (fun c6 => ?_) (fun c6 => ?_)
      · exact hback_7 _ (by (try dsimp only); (repeat' apply And.intro) <;> first | with_reducible assumption | first | lia | grind [zu_at, zu_atL, zvn]) (by (try dsimp only); first | lia | grind [zu_at, zu_atL, zvn]) (by (try dsimp only); first | lia | grind [zu_at, zu_atL, zvn])
      refine zw_if (fun c7 => ?_) (fun c7 => ?_)
      · exact hback_7 _ (by (try dsimp only); (repeat' apply And.intro) <;> first | with_reducible assumption | first | lia | grind [zu_at, zu_atL, zvn]) (by (try dsimp only); first | lia | grind [zu_at, zu_atL, zvn]) (by (try dsimp only); first | lia | grind [zu_at, zu_atL, zvn])
      refine zw_if (fun c8 => ?_) (fun c8 => ?_)
      · exact hback_7 _ (by (try dsimp only); (repeat' apply And.intro) <;> first | with_reducible assumption | first | lia | grind [zu_at, zu_atL, zvn]) (by (try dsimp only); first | lia | grind [zu_at, zu_atL, zvn]) (by (try dsimp only); first | lia | grind [zu_at, zu_atL, zvn])
      exact hback_7 _ (by (try dsimp only); (repeat' apply And.intro) <;> first | with_reducible assumption | first | lia | grind [zu_at, zu_atL, zvn]) (by (try dsimp only); first | lia | grind [zu_at, zu_atL, zvn]) (by (try dsimp only); first | lia | grind [zu_at, zu_atL, zvn])
    exact hback_7 _ (by (try dsimp only); (repeat' apply And.intro) <;> first | with_reducible assumption | first | lia | grind [zu_at, zu_atL, zvn]) (by (try dsimp only); first | lia | grind [zu_at, zu_atL, zvn]) (by (try dsimp only); first | lia | grind [zu_at, zu_atL, zvn])
  refine zw_zg32 14 (by decide) (by (try dsimp only); first | lia | grind [zu_at, zu_atL, zvn]) ?_
  exact hback_1 _ (by (try dsimp only); (repeat' apply And.intro) <;> first | with_reducible assumption | first | lia | grind [zu_at, zu_atL, zvn]) (by (try dsimp only); first | lia | grind [zu_at, zu_atL, zvn]) (by (try dsimp only); first | lia | grind [zu_at, zu_atL, zvn])
set_option maxHeartbeats 4000000 in
set_option maxRecDepth 100000 in
theorem sf_X12_task (v0_1 : Int32) (v0_7 : Int32) (w0_28 : Int64) (v0_38 : Int32) (v0_58 : Int32) (v0_59 : Int32) (f1 : Nat → Int32) (f2 : Nat → Int32) (f3 : Nat → Int32) (f4 : Nat → Int32) (f5 : Nat → Int32) (f6 : Nat → Int32) (f7 : Nat → Int32) (f8 : Nat → Int32) (f9 : Nat → Int32) (f10 : Nat → Int32) (f11 : Nat → Int32) (f12 : Nat → Int32) (f13 : Nat → Int32) (f14 : Nat → Int32) (f15 : Nat → Int32) (f16 : Nat → Int32) (f17 : Nat → Int64) (f18 : Nat → Int64) (f19 : Nat → Int32) (f20 : Nat → Int32) (h_v0_1 : 0 ≤ v0_1 ∧ v0_1 ≤ 1200) (h_v0_7 : 0 ≤ v0_7 ∧ v0_7 ≤ 1200) (h_v0_38 : 0 ≤ v0_38 ∧ v0_38 ≤ 1) (h_f1 : (∀ i : Nat, 0 ≤ f1 i ∧ f1 i ≤ 4)) (h_f2 : (∀ i : Nat, 0 ≤ f2 i ∧ f2 i ≤ 14)) (h_f4 : (∀ i : Nat, 0 ≤ f4 i ∧ f4 i ≤ 255)) (h_f13 : (∀ i : Nat, (-1) ≤ f13 i ∧ f13 i ≤ 13)) (h_f14 : (∀ i : Nat, (-1) ≤ f14 i ∧ f14 i ≤ 13)) (h_f15 : (∀ i : Nat, (-1) ≤ f15 i ∧ f15 i ≤ 3)) (h_f16 : (∀ i : Nat, 0 ≤ f16 i ∧ f16 i ≤ 13)) (h_f19 : (∀ i : Nat, 0 ≤ f19 i ∧ f19 i ≤ 3)) (hx_0 : (∀ k : Nat, k < 71 → f5 k = zTab k)) (hx_1 : (∀ x : Int32, 0 ≤ x → x < 4 → 1 ≤ f8 x.toNatClampNeg → 1 ≤ f8 (4 + x).toNatClampNeg)) : zw (fn_X12_task v0_1 v0_7 w0_28 v0_38 v0_58 v0_59 f1 f2 f3 f4 f5 f6 f7 f8 f9 f10 f11 f12 f13 f14 f15 f16 f17 f18 f19 f20) (fun r => 0 ≤ r.2.1 ∧ r.2.1 ≤ 1200 ∧ 0 ≤ r.2.2.1 ∧ r.2.2.1 ≤ 1 ∧ 0 ≤ r.2.2.2.2.2.1 ∧ r.2.2.2.2.2.1 ≤ 1 ∧ 0 ≤ r.2.2.2.2.2.2.2.1 ∧ r.2.2.2.2.2.2.2.1 ≤ 1200 ∧ 0 ≤ r.2.2.2.2.2.2.2.2.2.2.1 ∧ r.2.2.2.2.2.2.2.2.2.2.1 ≤ 1200 ∧ 0 ≤ r.2.2.2.2.2.2.2.2.2.2.2.1 ∧ r.2.2.2.2.2.2.2.2.2.2.2.1 ≤ 1200 ∧ 0 ≤ r.2.2.2.2.2.2.2.2.2.2.2.2.1 ∧ r.2.2.2.2.2.2.2.2.2.2.2.2.1 ≤ 4 ∧ (∀ i : Nat, 0 ≤ r.2.2.2.2.2.2.2.2.2.2.2.2.2.2.1 i ∧ r.2.2.2.2.2.2.2.2.2.2.2.2.2.2.1 i ≤ 4) ∧ (∀ i : Nat, 0 ≤ r.2.2.2.2.2.2.2.2.2.2.2.2.2.2.2.1 i ∧ r.2.2.2.2.2.2.2.2.2.2.2.2.2.2.2.1 i ≤ 14) ∧ (∀ i : Nat, (-1) ≤ r.2.2.2.2.2.2.2.2.2.2.2.2.2.2.2.2.2.2.2.2.2.2.2.2.1 i ∧ r.2.2.2.2.2.2.2.2.2.2.2.2.2.2.2.2.2.2.2.2.2.2.2.2.1 i ≤ 13) ∧ (∀ i : Nat, (-1) ≤ r.2.2.2.2.2.2.2.2.2.2.2.2.2.2.2.2.2.2.2.2.2.2.2.2.2.1 i ∧ r.2.2.2.2.2.2.2.2.2.2.2.2.2.2.2.2.2.2.2.2.2.2.2.2.2.1 i ≤ 13) ∧ (∀ i : Nat, (-1) ≤ r.2.2.2.2.2.2.2.2.2.2.2.2.2.2.2.2.2.2.2.2.2.2.2.2.2.2.1 i ∧ r.2.2.2.2.2.2.2.2.2.2.2.2.2.2.2.2.2.2.2.2.2.2.2.2.2.2.1 i ≤ 3) ∧ (∀ i : Nat, 0 ≤ r.2.2.2.2.2.2.2.2.2.2.2.2.2.2.2.2.2.2.2.2.2.2.2.2.2.2.2.1 i ∧ r.2.2.2.2.2.2.2.2.2.2.2.2.2.2.2.2.2.2.2.2.2.2.2.2.2.2.2.1 i ≤ 13) ∧ (∀ i : Nat, 0 ≤ r.2.2.2.2.2.2.2.2.2.2.2.2.2.2.2.2.2.2.2.2.2.2.2.2.2.2.2.2.2.2.1 i ∧ r.2.2.2.2.2.2.2.2.2.2.2.2.2.2.2.2.2.2.2.2.2.2.2.2.2.2.2.2.2.2.1 i ≤ 3) ∧ (-1) ≤ r.1 ∧ 0 ≤ r.2.2.2.2.1 ∧ r.1 ≤ 14 ∧ r.2.1 ≤ 0 ∧ r.2.2.1 ≤ 0 ∧ r.2.2.2.2.1 ≤ 4 ∧ (r.1 = (-1) → 1 ≤ r.2.2.2.2.1 ∧ 1 ≤ r.2.2.2.2.2.2.2.2.2.2.2.2.1) ∧ (¬ r.1 = (-1) → 0 ≤ r.1 ∧ (-1) ≤ r.2.2.2.2.2.2.2.2.1 ∧ (-1) ≤ r.2.2.2.2.2.2.2.2.2.1 ∧ r.2.2.2.2.1 ≤ 0 ∧ r.2.2.2.2.2.2.2.2.1 ≤ (-1) ∧ r.2.2.2.2.2.2.2.2.2.1 ≤ (-1) ∧ r.2.2.2.2.2.2.2.2.2.2.2.2.1 ≤ 0) ∧ (∀ x : Int32, 0 ≤ x → x < 4 → 1 ≤ r.2.2.2.2.2.2.2.2.2.2.2.2.2.2.2.2.2.2.2.1 x.toNatClampNeg → 1 ≤ r.2.2.2.2.2.2.2.2.2.2.2.2.2.2.2.2.2.2.2.1 (4 + x).toNatClampNeg) ∧ (∀ x : Int32, 0 ≤ x → x < 4 → 1 ≤ f8 x.toNatClampNeg → 1 ≤ r.2.2.2.2.2.2.2.2.2.2.2.2.2.2.2.2.2.2.2.1 x.toNatClampNeg) ∧ (r.1 = (-1) → r.2.2.2.2.2.2.2.2.2.2.2.2.2.2.2.1 (0 : Int32).toNatClampNeg = f2 (0 : Int32).toNatClampNeg ∧ r.2.2.2.2.2.2.2.2.2.2.2.2.2.2.1 (0 : Int32).toNatClampNeg = f1 (0 : Int32).toNatClampNeg ∧ (∀ x : Int32, 0 ≤ x → x < 4 → r.2.2.2.2.2.2.2.2.2.2.2.2.2.2.2.2.2.2.2.1 x.toNatClampNeg = f8 x.toNatClampNeg) ∧ (∀ i : Nat, r.2.2.2.2.2.2.2.2.2.2.2.2.2.2.2.2.2.2.2.2.2.2.2.2.2.2.2.2.2.2.1 i = f19 i)) ∧ (¬ r.1 = (-1) → 1 ≤ r.2.2.2.2.2.2.2.2.2.2.2.2.2.2.1 (0 : Int32).toNatClampNeg ∧ (∀ x : Int32, 0 ≤ x → x < r.2.2.2.2.2.2.2.2.2.2.2.2.2.2.1 (0 : Int32).toNatClampNeg → 1 ≤ r.2.2.2.2.2.2.2.2.2.2.2.2.2.2.2.2.2.2.2.1 x.toNatClampNeg) ∧ (∀ i : Nat, r.2.2.2.2.2.2.2.2.2.2.2.2.2.2.2.2.2.2.2.2.2.2.2.2.2.2.2.2.2.2.1 i = f19 i ∨ 1 ≤ r.2.2.2.2.2.2.2.2.2.2.2.2.2.2.2.2.2.2.2.1 (r.2.2.2.2.2.2.2.2.2.2.2.2.2.2.2.2.2.2.2.2.2.2.2.2.2.2.2.2.2.2.1 i).toNatClampNeg))) := by
  unfold fn_X12_task
  refine zw_zl32 (fun s_1 => (s_1.1 ≤ 40 ∨ ¬ s_1.2.2.2.2.1 = 0) ∧ (∀ x : Int32, 0 ≤ x → x < s_1.2.2.2.2.2.2.1 (1 : Int32).toNatClampNeg → 1 ≤ s_1.2.2.2.2.2.2.2.2.1 (4 + x).toNatClampNeg) ∧ (∀ k : Int32, 0 ≤ k → k < s_1.2.2.2.2.2.2.2.2.2.2.2.1 (1 : Int32).toNatClampNeg → s_1.2.2.2.2.2.2.2.2.2.2.2.2.2.2.2.2.2.2.2.1 (14 + k).toNatClampNeg = (-1) ∨ 0 ≤ s_1.2.2.2.2.2.2.2.2.2.2.2.2.2.2.2.2.2.2.2.1 (14 + k).toNatClampNeg ∧ 1 ≤ s_1.2.2.2.2.2.2.2.2.1 (4 + s_1.2.2.2.2.2.2.2.2.2.2.2.2.2.2.2.2.2.2.2.1 (14 + k).toNatClampNeg).toNatClampNeg) ∧ (∀ x : Int32, 0 ≤ x → x < 4 → 1 ≤ s_1.2.2.2.2.2.2.2.2.1 x.toNatClampNeg → 1 ≤ s_1.2.2.2.2.2.2.2.2.1 (4 + x).toNatClampNeg) ∧ (∀ x : Int32, 0 ≤ x → x < 4 → s_1.2.2.2.2.2.2.2.2.1 x.toNatClampNeg = f8 x.toNatClampNeg) ∧ s_1.2.2.2.2.2.2.1 (0 : Int32).toNatClampNeg = f1 (0 : Int32).toNatClampNeg ∧ s_1.2.2.2.2.2.2.2.2.2.2.2.1 (0 : Int32).toNatClampNeg = f2 (0 : Int32).toNatClampNeg ∧ (∀ i : Nat, 0 ≤ s_1.2.2.2.2.2.2.1 i ∧ s_1.2.2.2.2.2.2.1 i ≤ 4) ∧ (∀ i : Nat, 0 ≤ s_1.2.2.2.2.2.2.2.2.2.2.2.1 i ∧ s_1.2.2.2.2.2.2.2.2.2.2.2.1 i ≤ 14) ∧ (∀ i : Nat, (-1) ≤ s_1.2.2.2.2.2.2.2.2.2.2.2.2.2.2.1 i ∧ s_1.2.2.2.2.2.2.2.2.2.2.2.2.2.2.1 i ≤ 13) ∧ (∀ i : Nat, (-1) ≤ s_1.2.2.2.2.2.2.2.2.2.2.2.2.2.2.2.1 i ∧ s_1.2.2.2.2.2.2.2.2.2.2.2.2.2.2.2.1 i ≤ 13) ∧ (∀ i : Nat, (-1) ≤ s_1.2.2.2.2.2.2.2.2.2.2.2.2.2.2.2.2.2.2.2.1 i ∧ s_1.2.2.2.2.2.2.2.2.2.2.2.2.2.2.2.2.2.2.2.1 i ≤ 3) ∧ (∀ i : Nat, 0 ≤ s_1.2.2.2.2.2.2.2.2.2.2.2.2.2.2.2.2.2.2.2.2.2 i ∧ s_1.2.2.2.2.2.2.2.2.2.2.2.2.2.2.2.2.2.2.2.2.2 i ≤ 13) ∧ 0 ≤ s_1.1 ∧ s_1.1 ≤ 41 ∧ 0 ≤ s_1.2.2.1 ∧ s_1.2.2.1 ≤ 1200 ∧ 0 ≤ s_1.2.2.2.1 ∧ s_1.2.2.2.1 ≤ 1200 ∧ 0 ≤ s_1.2.2.2.2.1 ∧ s_1.2.2.2.2.1 ≤ 4 ∧ s_1.2.2.2.2.1 ≤ v0_1 + 3 ∧ s_1.2.2.2.2.1 ≤ s_1.1 + 3) (fun s_1 => 41 - s_1.1) (by (try dsimp only); (repeat' apply And.intro) <;> first | with_reducible assumption | first | lia | grind [zu_at, zu_atL, zvn, zinj']) (by (try dsimp only); first | lia | grind [zu_at, zu_atL, zvn, zinj']) (fun s_1 back_1 Hback_1 hback_1 => ?_)
  obtain ⟨s_1_0, s_1_1, s_1_2, s_1_3, s_1_4, s_1_5, s_1_6, s_1_7, s_1_8, s_1_9, s_1_10, s_1_11, s_1_12, s_1_13, s_1_14, s_1_15, s_1_16, s_1_17, s_1_18, s_1_19, s_1_20, s_1_21⟩ := s_1
  try dsimp only at Hback_1 hback_1
  obtain ⟨Hback_1_0, Hback_1_1, Hback_1_2, Hback_1_3, Hback_1_4, Hback_1_5, Hback_1_6, Hback_1_7, Hback_1_8, Hback_1_9, Hback_1_10, Hback_1_11, Hback_1_12, Hback_1_13, Hback_1_14, Hback_1_15, Hback_1_16, Hback_1_17, Hback_1_18, Hback_1_19, Hback_1_20, Hback_1_21, Hback_1_22⟩ := Hback_1
  refine zw_zb0 (sf_X12_goesWell s_1_4 (by first | with_reducible assumption | exact ⟨by with_reducible assumption, by with_reducible assumption⟩ | first | lia | grind [zu_at, zu_atL, zvn, zinj'])) (fun o_2 ho_2 => ?_)
  obtain ⟨ho_2_0, ho_2_1, ho_2_2, ho_2_3, ho_2_4, ho_2_5⟩ := ho_2
  refine zw_zj (fun s_6 => 0 ≤ s_6 ∧ s_6 ≤ 1200 ∧ s_1_2 ≤ s_6) (fun s_6 Hj_6 => ?_) (fun j_6 hj_6 => ?_)
  · obtain ⟨Hj_6_0, Hj_6_1, Hj_6_2⟩ := Hj_6
    refine zw_zb0 (sf_X12_goesWell s_1_4 (by first | with_reducible assumption | exact ⟨by with_reducible assumption, by with_reducible assumption⟩ | first | lia | grind [zu_at, zu_atL, zvn, zinj'])) (fun o_7 ho_7 => ?_)
    obtain ⟨ho_7_0, ho_7_1, ho_7_2, ho_7_3, ho_7_4, ho_7_5⟩ := ho_7
    refine zw_zj (fun s_11 => (s_11.1 = 0 → 1 ≤ s_1_6 (1 : Int32).toNatClampNeg ∧ 1 ≤ s_1_11 (1 : Int32).toNatClampNeg) ∧ 0 ≤ s_11.1 ∧ s_11.1 ≤ 4 ∧ s_1_4 ≤ s_11.1) (fun s_11 Hj_11 => ?_) (fun j_11 hj_11 => ?_)
    · obtain ⟨s_11_0, s_11_1⟩ := s_11
      try dsimp only at Hj_11
      obtain ⟨Hj_11_0, Hj_11_1, Hj_11_2, Hj_11_3⟩ := Hj_11
      refine zw_if (fun c1 => ?_) (fun c1 => ?_)
      · refine zw_zb0 (sf_X12_copiesTask s_1_6 s_1_11 s_1_18 s_1_7 s_1_8 s_1_9 s_1_10 s_1_12 s_1_13 s_1_14 s_1_15 s_1_16 s_1_17 s_1_19 s_1_20 s_1_21 (by first | with_reducible assumption | exact ⟨by with_reducible assumption, by with_reducible assumption⟩ | first | lia | grind [zu_at, zu_atL, zvn, zinj']) (by first | with_reducible assumption | exact ⟨by with_reducible assumption, by with_reducible assumption⟩ | first | lia | grind [zu_at, zu_atL, zvn, zinj']) (by first | with_reducible assumption | exact ⟨by with_reducible assumption, by with_reducible assumption⟩ | first | lia | grind [zu_at, zu_atL, zvn, zinj']) (by first | with_reducible assumption | exact ⟨by with_reducible assumption, by with_reducible assumption⟩ | first | lia | grind [zu_at, zu_atL, zvn, zinj']) (by first | with_reducible assumption | exact ⟨by with_reducible assumption, by with_reducible assumption⟩ | first | lia | grind [zu_at, zu_atL, zvn, zinj']) (by first | with_reducible assumption | exact ⟨by with_reducible assumption, by with_reducible assumption⟩ | first | lia | grind [zu_at, zu_atL, zvn, zinj'])) (fun o_13 ho_13 => ?_)
        obtain ⟨o_13_0, o_13_1, o_13_2, o_13_3, o_13_4, o_13_5, o_13_6, o_13_7, o_13_8, o_13_9, o_13_10, o_13_11, o_13_12, o_13_13, o_13_14, o_13_15⟩ := o_13
        try dsimp only at ho_13
        obtain ⟨ho_13_0, ho_13_1, ho_13_2, ho_13_3, ho_13_4, ho_13_5, ho_13_6, ho_13_7, ho_13_8, ho_13_9⟩ := ho_13
        refine zw_zb0 (sf_X12_beginsChoice o_13_1 f19 o_13_13 o_13_15 (by first | with_reducible assumption | exact ⟨by with_reducible assumption, by with_reducible assumption⟩ | first | lia | grind [zu_at, zu_atL, zvn, zinj']) (by first | with_reducible assumption | exact ⟨by with_reducible assumption, by with_reducible assumption⟩ | first | lia | grind [zu_at, zu_atL, zvn, zinj']) (by first | with_reducible assumption | exact ⟨by with_reducible assumption, by with_reducible assumption⟩ | first | lia | grind [zu_at, zu_atL, zvn, zinj']) (by first | with_reducible assumption | exact ⟨by with_reducible assumption, by with_reducible assumption⟩ | first | lia | grind [zu_at, zu_atL, zvn, zinj'])) (fun o_17 ho_17 => ?_)
        obtain ⟨o_17_0, o_17_1⟩ := o_17
        try dsimp only at ho_17
        obtain ⟨ho_17_0, ho_17_1, ho_17_2, ho_17_3, ho_17_4⟩ := ho_17
        refine zw_some ?_
        first | exact True.intro | ((try dsimp only); (repeat' apply And.intro) <;> first | with_reducible assumption | first | lia | grind [zu_at, zu_atL, zvn, zinj'])
      refine zw_zb0 (sf_X12_refuses 1 f20 (by first | with_reducible assumption | exact ⟨by with_reducible assumption, by with_reducible assumption⟩ | first | lia | grind [zu_at, zu_atL, zvn, zinj'])) (fun o_21 ho_21 => ?_)
      obtain ⟨o_21_0, o_21_1⟩ := o_21
      try dsimp only at ho_21
      obtain ⟨ho_21_0, ho_21_1⟩ := ho_21
      refine zw_some ?_
      first | exact True.intro | ((try dsimp only); (repeat' apply And.intro) <;> first | with_reducible assumption | first | lia | grind [zu_at, zu_atL, zvn, zinj'])
    refine zw_if (fun c2 => ?_) (fun c2 => ?_)
    · exact hj_11 _ (by first | exact True.intro | ((try dsimp only); (repeat' apply And.intro) <;> first | with_reducible assumption | first | lia | grind [zu_at, zu_atL, zvn, zinj']))
    refine zw_zj (fun _ => (s_1_6 (1 : Int32).toNatClampNeg) ≤ 4 ∧ 0 ≤ (s_1_6 (1 : Int32).toNatClampNeg)) (fun s_26 Hj_26 => ?_) (fun j_26 hj_26 => ?_)
    · obtain ⟨Hj_26_0, Hj_26_1⟩ := Hj_26
      refine zw_zb0 (sf_X12_faults 4 v0_1 s_1_4 s_1_5 (by first | with_reducible assumption | exact ⟨by with_reducible assumption, by with_reducible assumption⟩ | first | lia | grind [zu_at, zu_atL, zvn, zinj']) (by first | with_reducible assumption | exact ⟨by with_reducible assumption, by with_reducible assumption⟩ | first | lia | grind [zu_at, zu_atL, zvn, zinj'])) (fun o_27 ho_27 => ?_)
      obtain ⟨o_27_0, o_27_1⟩ := o_27
      try dsimp only at ho_27
      obtain ⟨ho_27_0, ho_27_1, ho_27_2, ho_27_3⟩ := ho_27
      exact hj_11 _ (by first | exact True.intro | ((try dsimp only); (repeat' apply And.intro) <;> first | with_reducible assumption | first | lia | grind [zu_at, zu_atL, zvn, zinj']))
    refine zw_if (fun c3 => ?_) (fun c3 => ?_)
    · exact hj_26 _ (by first | exact True.intro | ((try dsimp only); (repeat' apply And.intro) <;> first | with_reducible assumption | first | lia | grind [zu_at, zu_atL, zvn, zinj']))
    refine zw_if (fun c4 => ?_) (fun c4 => ?_)
    · exact hj_26 _ (by first | exact True.intro | ((try dsimp only); (repeat' apply And.intro) <;> first | with_reducible assumption | first | lia | grind [zu_at, zu_atL, zvn, zinj']))
    exact hj_11 _ (by first | exact True.intro | ((try dsimp only); (repeat' apply And.intro) <;> first | with_reducible assumption | first | lia | grind [zu_at, zu_atL, zvn, zinj']))
  refine zw_if (fun c5 => ?_) (fun c5 => ?_)
  · exact hj_6 _ (by first | exact True.intro | ((try dsimp only); (repeat' apply And.intro) <;> first | with_reducible assumption | first | lia | grind [zu_at, zu_atL, zvn, zinj']))
  refine zw_zb0 (sf_X12_here v0_1 s_1_2 f4 (by first | with_reducible assumption | exact ⟨by with_reducible assumption, by with_reducible assumption⟩ | first | lia | grind [zu_at, zu_atL, zvn, zinj']) (by first | with_reducible assumption | exact ⟨by with_reducible assumption, by with_reducible assumption⟩ | first | lia | grind [zu_at, zu_atL, zvn, zinj']) (by first | with_reducible assumption | exact ⟨by with_reducible assumption, by with_reducible assumption⟩ | first | lia | grind [zu_at, zu_atL, zvn, zinj'])) (fun o_34 ho_34 => ?_)
  obtain ⟨o_34_0, o_34_1⟩ := o_34
  try dsimp only at ho_34
  obtain ⟨ho_34_0, ho_34_1, ho_34_2, ho_34_3, ho_34_4, ho_34_5, ho_34_6⟩ := ho_34
  refine zw_if (fun c6 => ?_) (fun c6 => ?_)
  · exact hj_6 _ (by first | exact True.intro | ((try dsimp only); (repeat' apply And.intro) <;> first | with_reducible assumption | first | lia | grind [zu_at, zu_atL, zvn, zinj']))
  refine zw_zb0 (sf_X12_readsStatement s_1_0 v0_1 o_34_1 s_1_3 s_1_4 s_1_5 1 s_1_1 f4 f5 s_1_6 s_1_11 s_1_7 s_1_12 s_1_8 s_1_9 s_1_10 s_1_20 s_1_18 s_1_13 s_1_14 s_1_15 s_1_19 s_1_21 s_1_16 s_1_17 (by first | with_reducible assumption | exact ⟨by with_reducible assumption, by with_reducible assumption⟩ | first | lia | grind [zu_at, zu_atL, zvn, zinj']) (by first | with_reducible assumption | exact ⟨by with_reducible assumption, by with_reducible assumption⟩ | first | lia | grind [zu_at, zu_atL, zvn, zinj']) (by first | with_reducible assumption | exact ⟨by with_reducible assumption, by with_reducible assumption⟩ | first | lia | grind [zu_at, zu_atL, zvn, zinj']) (by first | with_reducible assumption | exact ⟨by with_reducible assumption, by with_reducible assumption⟩ | first | lia | grind [zu_at, zu_atL, zvn, zinj']) (by first | with_reducible assumption | exact ⟨by with_reducible assumption, by with_reducible assumption⟩ | first | lia | grind [zu_at, zu_atL, zvn, zinj']) (by first | with_reducible assumption | exact ⟨by with_reducible assumption, by with_reducible assumption⟩ | first | lia | grind [zu_at, zu_atL, zvn, zinj']) (by first | with_reducible assumption | exact ⟨by with_reducible assumption, by with_reducible assumption⟩ | first | lia | grind [zu_at, zu_atL, zvn, zinj']) (by first | with_reducible assumption | exact ⟨by with_reducible assumption, by with_reducible assumption⟩ | first | lia | grind [zu_at, zu_atL, zvn, zinj']) (by first | with_reducible assumption | exact ⟨by with_reducible assumption, by with_reducible assumption⟩ | first | lia | grind [zu_at, zu_atL, zvn, zinj']) (by first | with_reducible assumption | exact ⟨by with_reducible assumption, by with_reducible assumption⟩ | first | lia | grind [zu_at, zu_atL, zvn, zinj']) (by first | with_reducible assumption | exact ⟨by with_reducible assumption, by with_reducible assumption⟩ | first | lia | grind [zu_at, zu_atL, zvn, zinj']) (by first | with_reducible assumption | exact ⟨by with_reducible assumption, by with_reducible assumption⟩ | first | lia | grind [zu_at, zu_atL, zvn, zinj']) (by first | with_reducible assumption | exact ⟨by with_reducible assumption, by with_reducible assumption⟩ | first | lia | grind [zu_at, zu_atL, zvn, zinj']) (by first | with_reducible assumption | exact ⟨by with_reducible assumption, by with_reducible assumption⟩ | first | lia | grind [zu_at, zu_atL, zvn, zinj'])) (fun o_39 ho_39 => ?_)
  obtain ⟨o_39_0, o_39_1, o_39_2, o_39_3, o_39_4, o_39_5, o_39_6, o_39_7, o_39_8, o_39_9, o_39_10, o_39_11, o_39_12, o_39_13, o_39_14, o_39_15, o_39_16, o_39_17, o_39_18, o_39_19, o_39_20⟩ := o_39
  try dsimp only at ho_39
  obtain ⟨ho_39_0, ho_39_1, ho_39_2, ho_39_3, ho_39_4, ho_39_5, ho_39_6, ho_39_7, ho_39_8, ho_39_9, ho_39_10, ho_39_11, ho_39_12, ho_39_13, ho_39_14, ho_39_15, ho_39_16, ho_39_17, ho_39_18, ho_39_19, ho_39_20, ho_39_21⟩ := ho_39
  exact hback_1 _ (by (try dsimp only); (repeat' apply And.intro) <;> first | with_reducible assumption | first | lia | grind [zu_at, zu_atL, zvn, zinj']) (by (try dsimp only); first | lia | grind [zu_at, zu_atL, zvn, zinj']) (by (try dsimp only); first | lia | grind [zu_at, zu_atL, zvn, zinj'])
set_option maxHeartbeats 4000000 in
set_option maxRecDepth 100000 in
theorem sf_X12_fault (p1 : Int32) (v0_3 : Int32) (v0_4 : Int32) : zw (fn_X12_fault p1 v0_3 v0_4) (fun r => (¬ r = (-1) → 0 ≤ p1 ∧ p1 ≤ 1)) := by
  unfold fn_X12_fault
  refine zw_if (fun c1 => ?_) (fun c1 => ?_)
  · refine zw_some ?_
    first | exact True.intro | ((try dsimp only); (repeat' apply And.intro) <;> first | with_reducible assumption | first | lia | grind [zu_at, zu_atL, zvn])
  refine zw_if (fun c2 => ?_) (fun c2 => ?_)
  · refine zw_some ?_
    first | exact True.intro | ((try dsimp only); (repeat' apply And.intro) <;> first | with_reducible assumption | first | lia | grind [zu_at, zu_atL, zvn])
  refine zw_some ?_
  first | exact True.intro | ((try dsimp only); (repeat' apply And.intro) <;> first | with_reducible assumption | first | lia | grind [zu_at, zu_atL, zvn])
set_option maxHeartbeats 4000000 in
set_option maxRecDepth 100000 in
theorem sf_X12_isNumber (p1 : Int32) (f1 : Nat → Int32) (h_f1 : (∀ i : Nat, 0 ≤ f1 i ∧ f1 i ≤ 14)) : zw (fn_X12_isNumber p1 f1) (fun r => 0 ≤ r ∧ r ≤ 1 ∧ r ≤ (f1 (0 : Int32).toNatClampNeg) ∧ (¬ r = 0 → 0 ≤ p1 ∧ 1 ≤ r ∧ p1 ≤ 13 ∧ p1 < (f1 (0 : Int32).toNatClampNeg)) ∧ (r = 1 → 0 ≤ p1 ∧ p1 ≤ 13 ∧ 1 ≤ (f1 (0 : Int32).toNatClampNeg) ∧ p1 < (f1 (0 : Int32).toNatClampNeg)) ∧ (¬ r = 1 → r ≤ 0)) := by
  unfold fn_X12_isNumber
  refine zw_zb0 (sf_X12_isIn p1.toInt64 (0 : Int64) ((f1 (0 : Int32).toNatClampNeg).toInt64 - (1 : Int64))) (fun o_1 ho_1 => ?_)
  obtain ⟨ho_1_0, ho_1_1, ho_1_2, ho_1_3, ho_1_4⟩ := ho_1
  refine zw_some ?_
  first | exact True.intro | ((try dsimp only); (repeat' apply And.intro) <;> first | with_reducible assumption | first | lia | grind [zu_at, zu_atL, zvn])
set_option maxHeartbeats 4000000 in
set_option maxRecDepth 100000 in
theorem sf_X12_isFormat (p1 : Int32) (f1 : Nat → Int32) (h_f1 : (∀ i : Nat, 0 ≤ f1 i ∧ f1 i ≤ 4)) : zw (fn_X12_isFormat p1 f1) (fun r => 0 ≤ r ∧ r ≤ 1 ∧ r ≤ (f1 (0 : Int32).toNatClampNeg) ∧ (f1 (0 : Int32).toNatClampNeg) ≤ r + 4 ∧ (¬ r = 0 → 0 ≤ p1 ∧ 1 ≤ r ∧ p1 ≤ 3 ∧ p1 < (f1 (0 : Int32).toNatClampNeg)) ∧ (r = 1 → 0 ≤ p1 ∧ p1 ≤ 3 ∧ p1 ≤ r + 2 ∧ 1 ≤ (f1 (0 : Int32).toNatClampNeg) ∧ p1 < (f1 (0 : Int32).toNatClampNeg) ∧ (f1 (0 : Int32).toNatClampNeg) ≤ r + 3) ∧ (¬ r = 1 → r ≤ 0)) := by
  unfold fn_X12_isFormat
  refine zw_zb0 (sf_X12_isIn p1.toInt64 (0 : Int64) ((f1 (0 : Int32).toNatClampNeg).toInt64 - (1 : Int64))) (fun o_1 ho_1 => ?_)
  obtain ⟨ho_1_0, ho_1_1, ho_1_2, ho_1_3, ho_1_4⟩ := ho_1
  refine zw_some ?_
  first | exact True.intro | ((try dsimp only); (repeat' apply And.intro) <;> first | with_reducible assumption | first | lia | grind [zu_at, zu_atL, zvn])
set_option maxHeartbeats 4000000 in
set_option maxRecDepth 100000 in
theorem sf_X12_inputs (f1 : Nat → Int32) (f2 : Nat → Int32) (h_f1 : (∀ i : Nat, 0 ≤ f1 i ∧ f1 i ≤ 14)) : zw (fn_X12_inputs f1 f2) (fun r => 0 ≤ r ∧ r ≤ 14) := by
  unfold fn_X12_inputs
  refine zw_zl32 (fun s_1 => 0 ≤ s_1.1 ∧ 0 ≤ s_1.2 ∧ s_1.1 ≤ 14 ∧ s_1.2 ≤ 14 ∧ s_1.1 ≤ s_1.2) (fun s_1 => 14 - s_1.2) (by (try dsimp only); (repeat' apply And.intro) <;> first | with_reducible assumption | first | lia | grind [zu_at, zu_atL, zvn]) (by (try dsimp only); first | lia | grind [zu_at, zu_atL, zvn]) (fun s_1 back_1 Hback_1 hback_1 => ?_)
  obtain ⟨s_1_0, s_1_1⟩ := s_1
  try dsimp only at Hback_1 hback_1
  obtain ⟨Hback_1_0, Hback_1_1, Hback_1_2, Hback_1_3, Hback_1_4⟩ := Hback_1
  refine zw_if (fun c1 => ?_) (fun c1 => ?_)
  · refine zw_some ?_
    first | exact True.intro | ((try dsimp only); (repeat' apply And.intro) <;> first | with_reducible assumption | first | lia | grind [zu_at, zu_atL, zvn])
  refine zw_zg32 28 (by decide) (by (try dsimp only); first | lia | grind [zu_at, zu_atL, zvn]) ?_
  refine zw_if (fun c2 => ?_) (fun c2 => ?_)
  · exact hback_1 _ (by (try dsimp only); (repeat' apply And.intro) <;> first | with_reducible assumption | first | lia | grind [zu_at, zu_atL, zvn]) (by (try dsimp only); first | lia | grind [zu_at, zu_atL, zvn]) (by (try dsimp only); first | lia | grind [zu_at, zu_atL, zvn])
  exact hback_1 _ (by (try dsimp only); (repeat' apply And.intro) <;> first | with_reducible assumption | first | lia | grind [zu_at, zu_atL, zvn]) (by (try dsimp only); first | lia | grind [zu_at, zu_atL, zvn]) (by (try dsimp only); first | lia | grind [zu_at, zu_atL, zvn])
set_option maxHeartbeats 4000000 in
set_option maxRecDepth 100000 in
theorem sf_X12_answers (f1 : Nat → Int32) (f2 : Nat → Int32) (h_f1 : (∀ i : Nat, 0 ≤ f1 i ∧ f1 i ≤ 14)) : zw (fn_X12_answers f1 f2) (fun r => 0 ≤ r ∧ r ≤ 14) := by
  unfold fn_X12_answers
  refine zw_zl32 (fun s_1 => 0 ≤ s_1.1 ∧ 0 ≤ s_1.2 ∧ s_1.1 ≤ 14 ∧ s_1.2 ≤ 14 ∧ s_1.1 ≤ s_1.2) (fun s_1 => 14 - s_1.2) (by (try dsimp only); (repeat' apply And.intro) <;> first | with_reducible assumption | first | lia | grind [zu_at, zu_atL, zvn]) (by (try dsimp only); first | lia | grind [zu_at, zu_atL, zvn]) (fun s_1 back_1 Hback_1 hback_1 => ?_)
  obtain ⟨s_1_0, s_1_1⟩ := s_1
  try dsimp only at Hback_1 hback_1
  obtain ⟨Hback_1_0, Hback_1_1, Hback_1_2, Hback_1_3, Hback_1_4⟩ := Hback_1
  refine zw_if (fun c1 => ?_) (fun c1 => ?_)
  · refine zw_some ?_
    first | exact True.intro | ((try dsimp only); (repeat' apply And.intro) <;> first | with_reducible assumption | first | lia | grind [zu_at, zu_atL, zvn])
  refine zw_zg32 28 (by decide) (by (try dsimp only); first | lia | grind [zu_at, zu_atL, zvn]) ?_
  refine zw_if (fun c2 => ?_) (fun c2 => ?_)
  · exact hback_1 _ (by (try dsimp only); (repeat' apply And.intro) <;> first | with_reducible assumption | first | lia | grind [zu_at, zu_atL, zvn]) (by (try dsimp only); first | lia | grind [zu_at, zu_atL, zvn]) (by (try dsimp only); first | lia | grind [zu_at, zu_atL, zvn])
  exact hback_1 _ (by (try dsimp only); (repeat' apply And.intro) <;> first | with_reducible assumption | first | lia | grind [zu_at, zu_atL, zvn]) (by (try dsimp only); first | lia | grind [zu_at, zu_atL, zvn]) (by (try dsimp only); first | lia | grind [zu_at, zu_atL, zvn])
set_option maxHeartbeats 4000000 in
set_option maxRecDepth 100000 in
theorem sf_X12_groups (f1 : Nat → Int32) (f2 : Nat → Int32) (h_f1 : (∀ i : Nat, 0 ≤ f1 i ∧ f1 i ≤ 14)) (h_f2 : (∀ i : Nat, 0 ≤ f2 i ∧ f2 i ≤ 13)) : zw (fn_X12_groups f1 f2) (fun r => 0 ≤ r ∧ r ≤ 14) := by
  unfold fn_X12_groups
  refine zw_zl32 (fun s_1 => 0 ≤ s_1.1 ∧ 0 ≤ s_1.2 ∧ s_1.1 ≤ 14 ∧ s_1.2 ≤ 14 ∧ s_1.1 ≤ s_1.2) (fun s_1 => 14 - s_1.2) (by (try dsimp only); (repeat' apply And.intro) <;> first | with_reducible assumption | first | lia | grind [zu_at, zu_atL, zvn]) (by (try dsimp only); first | lia | grind [zu_at, zu_atL, zvn]) (fun s_1 back_1 Hback_1 hback_1 => ?_)
  obtain ⟨s_1_0, s_1_1⟩ := s_1
  try dsimp only at Hback_1 hback_1
  obtain ⟨Hback_1_0, Hback_1_1, Hback_1_2, Hback_1_3, Hback_1_4⟩ := Hback_1
  refine zw_if (fun c1 => ?_) (fun c1 => ?_)
  · refine zw_some ?_
    first | exact True.intro | ((try dsimp only); (repeat' apply And.intro) <;> first | with_reducible assumption | first | lia | grind [zu_at, zu_atL, zvn])
  refine zw_zg32 28 (by decide) (by (try dsimp only); first | lia | grind [zu_at, zu_atL, zvn]) ?_
  refine zw_if (fun c2 => ?_) (fun c2 => ?_)
  · exact hback_1 _ (by (try dsimp only); (repeat' apply And.intro) <;> first | with_reducible assumption | first | lia | grind [zu_at, zu_atL, zvn]) (by (try dsimp only); first | lia | grind [zu_at, zu_atL, zvn]) (by (try dsimp only); first | lia | grind [zu_at, zu_atL, zvn])
  exact hback_1 _ (by (try dsimp only); (repeat' apply And.intro) <;> first | with_reducible assumption | first | lia | grind [zu_at, zu_atL, zvn]) (by (try dsimp only); first | lia | grind [zu_at, zu_atL, zvn]) (by (try dsimp only); first | lia | grind [zu_at, zu_atL, zvn])
set_option maxHeartbeats 4000000 in
set_option maxRecDepth 100000 in
theorem sf_X12_isFree (p1 : Int32) (f1 : Nat → Int32) (f2 : Nat → Int32) (f3 : Nat → Int32) (h_f1 : (∀ i : Nat, 0 ≤ f1 i ∧ f1 i ≤ 14)) (h_f2 : (∀ i : Nat, 0 ≤ f2 i ∧ f2 i ≤ 13)) (h_f3 : (∀ i : Nat, (-1) ≤ f3 i ∧ f3 i ≤ 3)) : zw (fn_X12_isFree p1 f1 f2 f3) (fun r => 0 ≤ r ∧ r ≤ 1 ∧ r ≤ (f1 (0 : Int32).toNatClampNeg) + 1 ∧ (¬ r = 1 → 0 ≤ p1 ∧ p1 ≤ 13 ∧ r ≤ 0 ∧ 1 ≤ (f1 (0 : Int32).toNatClampNeg)) ∧ (r = 0 → 0 ≤ p1 ∧ p1 ≤ 13 ∧ r ≤ p1 ∧ 1 ≤ (f1 (0 : Int32).toNatClampNeg) ∧ r < (f1 (0 : Int32).toNatClampNeg)) ∧ (¬ r = 0 → 1 ≤ r)) := by
  unfold fn_X12_isFree
  refine zw_zl32 (fun s_1 => 0 ≤ s_1 ∧ s_1 ≤ 14) (fun s_1 => 14 - s_1) (by (try dsimp only); (repeat' apply And.intro) <;> first | with_reducible assumption | first | lia | grind [zu_at, zu_atL, zvn]) (by (try dsimp only); first | lia | grind [zu_at, zu_atL, zvn]) (fun s_1 back_1 Hback_1 hback_1 => ?_)
  obtain ⟨Hback_1_0, Hback_1_1⟩ := Hback_1
  refine zw_if (fun c1 => ?_) (fun c1 => ?_)
  · refine zw_some ?_
    first | exact True.intro | ((try dsimp only); (repeat' apply And.intro) <;> first | with_reducible assumption | first | lia | grind [zu_at, zu_atL, zvn])
  refine zw_zg32 28 (by decide) (by (try dsimp only); first | lia | grind [zu_at, zu_atL, zvn]) ?_
  refine zw_if (fun c2 => ?_) (fun c2 => ?_)
  · refine zw_if (fun c3 => ?_) (fun c3 => ?_)
    · exact hback_1 _ (by (try dsimp only); (repeat' apply And.intro) <;> first | with_reducible assumption | first | lia | grind [zu_at, zu_atL, zvn]) (by (try dsimp only); first | lia | grind [zu_at, zu_atL, zvn]) (by (try dsimp only); first | lia | grind [zu_at, zu_atL, zvn])
    refine zw_some ?_
    first | exact True.intro | ((try dsimp only); (repeat' apply And.intro) <;> first | with_reducible assumption | first | lia | grind [zu_at, zu_atL, zvn])
  exact hback_1 _ (by (try dsimp only); (repeat' apply And.intro) <;> first | with_reducible assumption | first | lia | grind [zu_at, zu_atL, zvn]) (by (try dsimp only); first | lia | grind [zu_at, zu_atL, zvn]) (by (try dsimp only); first | lia | grind [zu_at, zu_atL, zvn])
set_option maxHeartbeats 4000000 in
set_option maxRecDepth 100000 in
theorem sf_X12_laysFree (f1 : Nat → Int32) (f2 : Nat → Int32) (f3 : Nat → Int32) (f4 : Nat → Int32) (h_f1 : (∀ i : Nat, 0 ≤ f1 i ∧ f1 i ≤ 14)) (h_f2 : (∀ i : Nat, 0 ≤ f2 i ∧ f2 i ≤ 13)) (h_f3 : (∀ i : Nat, (-1) ≤ f3 i ∧ f3 i ≤ 3)) (h_f4 : (∀ i : Nat, 0 ≤ f4 i ∧ f4 i ≤ 13)) : zw (fn_X12_laysFree f1 f2 f3 f4) (fun r => 0 ≤ r.1 ∧ r.1 ≤ 14 ∧ (∀ i : Nat, 0 ≤ r.2 i ∧ r.2 i ≤ 13)) := by
  unfold fn_X12_laysFree
  refine zw_zl32 (fun s_1 => (∀ i : Nat, 0 ≤ s_1.2.2 i ∧ s_1.2.2 i ≤ 13) ∧ 0 ≤ s_1.1 ∧ s_1.1 ≤ 14 ∧ 0 ≤ s_1.2.1 ∧ s_1.2.1 ≤ 14 ∧ s_1.2.1 ≤ s_1.1) (fun s_1 => 14 - s_1.1) (by (try dsimp only); (repeat' apply And.intro) <;> first | with_reducible assumption | first | lia | grind [zu_at, zu_atL, zvn]) (by (try dsimp only); first | lia | grind [zu_at, zu_atL, zvn]) (fun s_1 back_1 Hback_1 hback_1 => ?_)
  obtain ⟨s_1_0, s_1_1, s_1_2⟩ := s_1
  try dsimp only at Hback_1 hback_1
  obtain ⟨Hback_1_0, Hback_1_1, Hback_1_2, Hback_1_3, Hback_1_4, Hback_1_5⟩ := Hback_1
  refine zw_if (fun c1 => ?_) (fun c1 => ?_)
  · refine zw_some ?_
    first | exact True.intro | ((try dsimp only); (repeat' apply And.intro) <;> first | with_reducible assumption | first | lia | grind [zu_at, zu_atL, zvn])
  refine zw_zg32 28 (by decide) (by (try dsimp only); first | lia | grind [zu_at, zu_atL, zvn]) ?_
  refine zw_if (fun c2 => ?_) (fun c2 => ?_)
  · refine zw_zb0 (sf_X12_isFree s_1_0 f1 f2 f3 (by first | with_reducible assumption | exact ⟨by with_reducible assumption, by with_reducible assumption⟩ | first | lia | grind [zu_at, zu_atL, zvn]) (by first | with_reducible assumption | exact ⟨by with_reducible assumption, by with_reducible assumption⟩ | first | lia | grind [zu_at, zu_atL, zvn]) (by first | with_reducible assumption | exact ⟨by with_reducible assumption, by with_reducible assumption⟩ | first | lia | grind [zu_at, zu_atL, zvn])) (fun o_5 ho_5 => ?_)
    obtain ⟨ho_5_0, ho_5_1, ho_5_2, ho_5_3, ho_5_4, ho_5_5⟩ := ho_5
    refine zw_if (fun c3 => ?_) (fun c3 => ?_)
    · exact hback_1 _ (by (try dsimp only); (repeat' apply And.intro) <;> first | with_reducible assumption | first | lia | grind [zu_at, zu_atL, zvn]) (by (try dsimp only); first | lia | grind [zu_at, zu_atL, zvn]) (by (try dsimp only); first | lia | grind [zu_at, zu_atL, zvn])
    refine zw_zg32 14 (by decide) (by (try dsimp only); first | lia | grind [zu_at, zu_atL, zvn]) ?_
    exact hback_1 _ (by (try dsimp only); (repeat' apply And.intro) <;> first | with_reducible assumption | first | lia | grind [zu_at, zu_atL, zvn]) (by (try dsimp only); first | lia | grind [zu_at, zu_atL, zvn]) (by (try dsimp only); first | lia | grind [zu_at, zu_atL, zvn])
  exact hback_1 _ (by (try dsimp only); (repeat' apply And.intro) <;> first | with_reducible assumption | first | lia | grind [zu_at, zu_atL, zvn]) (by (try dsimp only); first | lia | grind [zu_at, zu_atL, zvn]) (by (try dsimp only); first | lia | grind [zu_at, zu_atL, zvn])
