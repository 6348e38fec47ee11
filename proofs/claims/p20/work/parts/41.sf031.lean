set_option maxHeartbeats 4000000 in
set_option maxRecDepth 100000 in
theorem sf_X12_check (v0_1 : Int32) (v0_33 : Int32) (w0_34 : Int64) (f1 : Nat → Int32) (f2 : Nat → Int32) (f3 : Nat → Int32) (f4 : Nat → Int32) (f5 : Nat → Int64) (f6 : Nat → Int64) (f7 : Nat → Int64) (f8 : Nat → Int32) (f9 : Nat → Int32) (f10 : Nat → Int32) (f11 : Nat → Int32) (f12 : Nat → Int32) (f13 : Nat → Int32) (f14 : Nat → Int32) (f15 : Nat → Int64) (f16 : Nat → Int64) (f17 : Nat → Int64) (f18 : Nat → Int64) (f19 : Nat → Int32) (f20 : Nat → Int64) (f21 : Nat → Int32) (f22 : Nat → Int32) (h_v0_1 : 0 ≤ v0_1 ∧ v0_1 ≤ 1200) (h_f1 : (∀ i : Nat, 0 ≤ f1 i ∧ f1 i ≤ 14)) (h_f3 : (∀ i : Nat, 0 ≤ f3 i ∧ f3 i ≤ 255)) (h_f8 : (∀ i : Nat, 0 ≤ f8 i ∧ f8 i ≤ 4)) (h_f9 : (∀ i : Nat, 0 ≤ f9 i ∧ f9 i ≤ 13)) (h_f10 : (∀ i : Nat, (-1) ≤ f10 i ∧ f10 i ≤ 3)) (h_f11 : (∀ i : Nat, 0 ≤ f11 i ∧ f11 i ≤ 3)) (h_f13 : (∀ i : Nat, (-1) ≤ f13 i ∧ f13 i ≤ 13)) (h_f14 : (∀ i : Nat, (-1) ≤ f14 i ∧ f14 i ≤ 13)) (hx_0 : f1 (0 : Int32).toNatClampNeg ≤ 0 ∨ 1 ≤ f8 (0 : Int32).toNatClampNeg ∧ (∀ x : Int32, 0 ≤ x → x < f8 (0 : Int32).toNatClampNeg → 1 ≤ f19 x.toNatClampNeg) ∧ (∀ i : Nat, 1 ≤ f19 (f11 i).toNatClampNeg)) : zw (fn_X12_check v0_1 v0_33 w0_34 f1 f2 f3 f4 f5 f6 f7 f8 f9 f10 f11 f12 f13 f14 f15 f16 f17 f18 f19 f20 f21 f22) (fun r => 0 ≤ r.1 ∧ r.1 ≤ 1 ∧ 0 ≤ r.2.1 ∧ r.2.1 ≤ 1200 ∧ (∀ i : Nat, 0 ≤ r.2.2.2.2.2.2.2.2.2.2.1 i ∧ r.2.2.2.2.2.2.2.2.2.2.1 i ≤ 3) ∧ (-2) ≤ r.2.2.2.1 ∧ (-1) ≤ r.2.2.2.2.1 ∧ r.2.1 ≤ 0 ∧ r.2.2.2.1 ≤ 13 ∧ r.2.2.2.2.1 ≤ 6 ∧ (∀ i : Nat, r.2.2.2.2.2.2.2.2.2.2.1 i = f11 i ∨ 0 ≤ r.2.2.2.2.2.2.2.2.2.2.1 i ∧ r.2.2.2.2.2.2.2.2.2.2.1 i < f8 (0 : Int32).toNatClampNeg) ∧ r.2.1 = 0) := by
  unfold fn_X12_check
  refine zw_if (fun c1 => ?_) (fun c1 => ?_)
  · refine zw_zb0 (sf_X12_isRefused 3 f2 (by first | with_reducible assumption | exact ⟨by with_reducible assumption, by with_reducible assumption⟩ | first | lia | grind [zu_at, zu_atL, zvn])) (fun o_2 ho_2 => ?_)
    obtain ⟨o_2_0, o_2_1⟩ := o_2
    try dsimp only at ho_2
    obtain ⟨ho_2_0, ho_2_1, ho_2_2⟩ := ho_2
    refine zw_some ?_
    first | exact True.intro | ((try dsimp only); (repeat' apply And.intro) <;> first | with_reducible assumption | first | lia | grind [zu_at, zu_atL, zvn])
  refine zw_if (fun c2 => ?_) (fun c2 => ?_)
  · have hn0 := h_f1 (0 : Int32).toNatClampNeg
    refine zw_zl32 (fun s_7 => 0 ≤ s_7.1 ∧ s_7.1 ≤ 14 ∧ s_7.1 ≤ (f1 (0 : Int32).toNatClampNeg)) (fun s_7 => 14 - s_7.1) (by (try dsimp only); (repeat' apply And.intro) <;> first | with_reducible assumption | first | lia | grind [zu_at, zu_atL, zvn]) (by (try dsimp only); first | lia | grind [zu_at, zu_atL, zvn]) (fun s_7 back_7 Hback_7 hback_7 => ?_)
    obtain ⟨s_7_0, s_7_1, s_7_2, s_7_3, s_7_4⟩ := s_7
    try dsimp only at Hback_7 hback_7
    obtain ⟨Hback_7_0, Hback_7_1, Hback_7_2⟩ := Hback_7
    refine zw_if (fun c3 => ?_) (fun c3 => ?_)
    · refine zw_zl32 (fun s_9 => (∀ i : Nat, 0 ≤ s_9.2.2.2.1 i ∧ s_9.2.2.2.1 i ≤ 3) ∧ 0 ≤ s_9.1 ∧ s_9.1 ≤ 14 ∧ s_9.1 ≤ s_7_0 ∧ (∀ i : Nat, s_9.2.2.2.1 i = f11 i ∨ 0 ≤ s_9.2.2.2.1 i ∧ s_9.2.2.2.1 i < f8 (0 : Int32).toNatClampNeg)) (fun s_9 => 14 - s_9.1) (by (try dsimp only); (repeat' apply And.intro) <;> first | with_reducible assumption | first | lia | grind [zu_at, zu_atL, zvn]) (by (try dsimp only); first | lia | grind [zu_at, zu_atL, zvn]) (fun s_9 back_9 Hback_9 hback_9 => ?_)
      obtain ⟨s_9_0, s_9_1, s_9_2, s_9_3, s_9_4⟩ := s_9
      try dsimp only at Hback_9 hback_9
      obtain ⟨Hback_9_0, Hback_9_1, Hback_9_2, Hback_9_3, Hback_9_4⟩ := Hback_9
      refine zw_if (fun c4 => ?_) (fun c4 => ?_)
      · refine zw_some ?_
        first | exact True.intro | ((try dsimp only); (repeat' apply And.intro) <;> first | with_reducible assumption | first | lia | grind [zu_at, zu_atL, zvn])
      have hst := hx_0.resolve_left (by lia)
      have hs1 := hst.1
      have hs2 := hst.2.1
      have hs3 := zStR hst.2.1 hst.2.2 Hback_9_4
      clear hst hx_0
      refine zw_zb0 (sf_X12_breaks s_9_0 (-1) w0_34 s_7_1 f8 f1 f9 f10 s_9_3 f12 f13 f14 s_9_1 f16 f17 s_9_2 f19 s_9_4 s_7_2 s_7_3 s_7_4 f21 f22 (by first | with_reducible assumption | exact ⟨by with_reducible assumption, by with_reducible assumption⟩ | first | lia | grind [zu_at, zu_atL, zvn]) (by first | with_reducible assumption | exact ⟨by with_reducible assumption, by with_reducible assumption⟩ | first | lia | grind [zu_at, zu_atL, zvn]) (by first | with_reducible assumption | exact ⟨by with_reducible assumption, by with_reducible assumption⟩ | first | lia | grind [zu_at, zu_atL, zvn]) (by first | with_reducible assumption | exact ⟨by with_reducible assumption, by with_reducible assumption⟩ | first | lia | grind [zu_at, zu_atL, zvn]) (by first | with_reducible assumption | exact ⟨by with_reducible assumption, by with_reducible assumption⟩ | first | lia | grind [zu_at, zu_atL, zvn]) (by first | with_reducible assumption | exact ⟨by with_reducible assumption, by with_reducible assumption⟩ | first | lia | grind [zu_at, zu_atL, zvn]) (by first | with_reducible assumption | exact ⟨by with_reducible assumption, by with_reducible assumption⟩ | first | lia | grind [zu_at, zu_atL, zvn]) (by first | with_reducible assumption | exact ⟨by with_reducible assumption, by with_reducible assumption⟩ | first | lia | grind [zu_at, zu_atL, zvn]) (by first | with_reducible assumption | exact ⟨by with_reducible assumption, by with_reducible assumption⟩ | first | lia | grind [zu_at, zu_atL, zvn]) (by first | with_reducible assumption | exact ⟨by with_reducible assumption, by with_reducible assumption⟩ | first | lia | grind [zu_at, zu_atL, zvn]) (by first | with_reducible assumption | exact ⟨by with_reducible assumption, by with_reducible assumption⟩ | first | lia | grind [zu_at, zu_atL, zvn])) (fun o_11 ho_11 => ?_)
      obtain ⟨o_11_0, o_11_1, o_11_2, o_11_3, o_11_4⟩ := o_11
      try dsimp only at ho_11
      obtain ⟨ho_11_0, ho_11_1, ho_11_2, ho_11_3⟩ := ho_11
      refine zw_if (fun c5 => ?_) (fun c5 => ?_)
      · exact hback_9 _ (by (try dsimp only); (repeat' apply And.intro) <;> first | with_reducible assumption | first | lia | grind [zu_at, zu_atL, zvn]) (by (try dsimp only); first | lia | grind [zu_at, zu_atL, zvn]) (by (try dsimp only); first | lia | grind [zu_at, zu_atL, zvn])
      refine zw_zb0 (sf_X12_isRefused 3 f2 (by first | with_reducible assumption | exact ⟨by with_reducible assumption, by with_reducible assumption⟩ | first | lia | grind [zu_at, zu_atL, zvn])) (fun o_16 ho_16 => ?_)
      obtain ⟨o_16_0, o_16_1⟩ := o_16
      try dsimp only at ho_16
      obtain ⟨ho_16_0, ho_16_1, ho_16_2⟩ := ho_16
      refine zw_some ?_
      first | exact True.intro | ((try dsimp only); (repeat' apply And.intro) <;> first | with_reducible assumption | first | lia | grind [zu_at, zu_atL, zvn])
    refine zw_zg32 1200 (by decide) (by (try dsimp only); first | lia | grind [zu_at, zu_atL, zvn]) ?_
    refine zw_zg32 14 (by decide) (by (try dsimp only); first | lia | grind [zu_at, zu_atL, zvn]) ?_
    refine zw_zn1 ?_
    refine zw_zb0 (sf_X12_readsLong ((25 * s_7_0) + 1) f3 (by first | with_reducible assumption | exact ⟨by with_reducible assumption, by with_reducible assumption⟩ | first | lia | grind [zu_at, zu_atL, zvn]) (by first | with_reducible assumption | exact ⟨by with_reducible assumption, by with_reducible assumption⟩ | first | lia | grind [zu_at, zu_atL, zvn])) (fun o_23 ho_23 => ?_)
    refine zw_zb0 (sf_X12_readsLong ((25 * s_7_0) + 9) f3 (by first | with_reducible assumption | exact ⟨by with_reducible assumption, by with_reducible assumption⟩ | first | lia | grind [zu_at, zu_atL, zvn]) (by first | with_reducible assumption | exact ⟨by with_reducible assumption, by with_reducible assumption⟩ | first | lia | grind [zu_at, zu_atL, zvn])) (fun o_27 ho_27 => ?_)
    refine zw_zb0 (sf_X12_readsLong ((25 * s_7_0) + 17) f3 (by first | with_reducible assumption | exact ⟨by with_reducible assumption, by with_reducible assumption⟩ | first | lia | grind [zu_at, zu_atL, zvn]) (by first | with_reducible assumption | exact ⟨by with_reducible assumption, by with_reducible assumption⟩ | first | lia | grind [zu_at, zu_atL, zvn])) (fun o_31 ho_31 => ?_)
    exact hback_7 _ (by (try dsimp only); (repeat' apply And.intro) <;> first | with_reducible assumption | first | lia | grind [zu_at, zu_atL, zvn]) (by (try dsimp only); first | lia | grind [zu_at, zu_atL, zvn]) (by (try dsimp only); first | lia | grind [zu_at, zu_atL, zvn])
  refine zw_zb0 (sf_X12_isRefused 3 f2 (by first | with_reducible assumption | exact ⟨by with_reducible assumption, by with_reducible assumption⟩ | first | lia | grind [zu_at, zu_atL, zvn])) (fun o_35 ho_35 => ?_)
  obtain ⟨o_35_0, o_35_1⟩ := o_35
  try dsimp only at ho_35
  obtain ⟨ho_35_0, ho_35_1, ho_35_2⟩ := ho_35
  refine zw_some ?_
  first | exact True.intro | ((try dsimp only); (repeat' apply And.intro) <;> first | with_reducible assumption | first | lia | grind [zu_at, zu_atL, zvn])
