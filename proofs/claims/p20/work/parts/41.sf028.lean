set_option maxHeartbeats 4000000 in
set_option maxRecDepth 100000 in
theorem sf_X12_certificate (p1 : Int32) (w0_34 : Int64) (v0_38 : Int32) (v0_41 : Int32) (v0_42 : Int32) (f1 : Nat → Int32) (f2 : Nat → Int32) (f3 : Nat → Int32) (f4 : Nat → Int32) (f5 : Nat → Int32) (f6 : Nat → Int32) (f7 : Nat → Int64) (f8 : Nat → Int64) (f9 : Nat → Int64) (f10 : Nat → Int64) (f11 : Nat → Int32) (f12 : Nat → Int64) (f13 : Nat → Int32) (f14 : Nat → Int32) (h_v0_38 : 0 ≤ v0_38 ∧ v0_38 ≤ 1) (h_f1 : (∀ i : Nat, 0 ≤ f1 i ∧ f1 i ≤ 14)) (h_f2 : (∀ i : Nat, 0 ≤ f2 i ∧ f2 i ≤ 3)) (h_f3 : (∀ i : Nat, 0 ≤ f3 i ∧ f3 i ≤ 3)) (h_f5 : (∀ i : Nat, (-1) ≤ f5 i ∧ f5 i ≤ 13)) (h_f6 : (∀ i : Nat, (-1) ≤ f6 i ∧ f6 i ≤ 13)) (hx_0 : f1 (0 : Int32).toNatClampNeg ≤ 0 ∨ (∀ i : Nat, 1 ≤ f11 (f2 i).toNatClampNeg) ∧ (∀ i : Nat, 1 ≤ f11 (f3 i).toNatClampNeg)) : zw (fn_X12_certificate p1 w0_34 v0_38 v0_41 v0_42 f1 f2 f3 f4 f5 f6 f7 f8 f9 f10 f11 f12 f13 f14) (fun r => (∀ i : Nat, 0 ≤ r.2.2.2.2.1 i ∧ r.2.2.2.2.1 i ≤ 3) ∧ (-1) ≤ r.2.1 ∧ r.2.1 ≤ (-1) ∧ (∀ i : Nat, r.2.2.2.2.1 i = f2 i ∨ r.2.2.2.2.1 i = f3 i)) := by
  unfold fn_X12_certificate
  refine zw_zb0 (sf_X12_handPasses w0_34 v0_38 v0_41 v0_42 f1 f2 f3 f4 f5 f6 f7 f8 f9 f10 f11 f12 f13 f14 (by first | with_reducible assumption | exact ⟨by with_reducible assumption, by with_reducible assumption⟩ | first | lia | grind [zu_at, zu_atL, zvn]) (by first | with_reducible assumption | exact ⟨by with_reducible assumption, by with_reducible assumption⟩ | first | lia | grind [zu_at, zu_atL, zvn]) (by first | with_reducible assumption | exact ⟨by with_reducible assumption, by with_reducible assumption⟩ | first | lia | grind [zu_at, zu_atL, zvn]) (by first | with_reducible assumption | exact ⟨by with_reducible assumption, by with_reducible assumption⟩ | first | lia | grind [zu_at, zu_atL, zvn]) (by first | with_reducible assumption | exact ⟨by with_reducible assumption, by with_reducible assumption⟩ | first | lia | grind [zu_at, zu_atL, zvn]) (by first | with_reducible assumption | exact ⟨by with_reducible assumption, by with_reducible assumption⟩ | first | lia | grind [zu_at, zu_atL, zvn]) (by first | with_reducible assumption | exact ⟨by with_reducible assumption, by with_reducible assumption⟩ | first | lia | grind [zu_at, zu_atL, zvn])) (fun o_1 ho_1 => ?_)
  obtain ⟨o_1_0, o_1_1, o_1_2, o_1_3, o_1_4, o_1_5, o_1_6, o_1_7⟩ := o_1
  try dsimp only at ho_1
  obtain ⟨ho_1_0, ho_1_1, ho_1_2, ho_1_3, ho_1_4, ho_1_5, ho_1_6, ho_1_7, ho_1_8, ho_1_9, ho_1_10⟩ := ho_1
  refine zw_if (fun c1 => ?_) (fun c1 => ?_)
  · refine zw_some ?_
    first | exact True.intro | ((try dsimp only); (repeat' apply And.intro) <;> first | with_reducible assumption | first | lia | grind [zu_at, zu_atL, zvn])
  refine zw_zb0 (sf_X12_isIn p1.toInt64 (0 : Int64) ((25 * (f1 (0 : Int32).toNatClampNeg)).toInt64 - (1 : Int64))) (fun o_6 ho_6 => ?_)
  obtain ⟨ho_6_0, ho_6_1, ho_6_2, ho_6_3, ho_6_4⟩ := ho_6
  refine zw_if (fun c2 => ?_) (fun c2 => ?_)
  · refine zw_some ?_
    first | exact True.intro | ((try dsimp only); (repeat' apply And.intro) <;> first | with_reducible assumption | first | lia | grind [zu_at, zu_atL, zvn])
  have hz0 := h_f1 (0 : Int32).toNatClampNeg
  have hz1 := z64_ge0 p1
  have hz2 := z64_ltm p1 (25 * (f1 (0 : Int32).toNatClampNeg)) (by lia)
  have hz3 : 0 ≤ p1 ∧ p1 < 25 * (f1 (0 : Int32).toNatClampNeg) := by grind
  have hdv := zdiv25 p1 hz3.1 (by lia)
  refine zw_if (fun c3 => ?_) (fun c3 => ?_)
  · refine zw_zg32 14 (by decide) (by (try dsimp only); first | lia | grind [zu_at, zu_atL, zvn]) ?_
    refine zw_some ?_
    first | exact True.intro | ((try dsimp only); (repeat' apply And.intro) <;> first | with_reducible assumption | first | lia | grind [zu_at, zu_atL, zvn])
  refine zw_if (fun c4 => ?_) (fun c4 => ?_)
  · refine zw_if (fun c5 => ?_) (fun c5 => ?_)
    · refine zw_zg32 14 (by decide) (by (try dsimp only); first | lia | grind [zu_at, zu_atL, zvn]) ?_
      refine zw_zb0 (sf_X12_byteOf (o_1_7 (p1 / 25).toNatClampNeg) ((p1 - ((p1 / 25) * 25)) - 17)) (fun o_15 ho_15 => ?_)
      refine zw_some ?_
      first | exact True.intro | ((try dsimp only); (repeat' apply And.intro) <;> first | with_reducible assumption | first | lia | grind [zu_at, zu_atL, zvn])
    refine zw_zg32 14 (by decide) (by (try dsimp only); first | lia | grind [zu_at, zu_atL, zvn]) ?_
    refine zw_zb0 (sf_X12_byteOf (o_1_6 (p1 / 25).toNatClampNeg) ((p1 - ((p1 / 25) * 25)) - 9)) (fun o_20 ho_20 => ?_)
    refine zw_some ?_
    first | exact True.intro | ((try dsimp only); (repeat' apply And.intro) <;> first | with_reducible assumption | first | lia | grind [zu_at, zu_atL, zvn])
  refine zw_zg32 14 (by decide) (by (try dsimp only); first | lia | grind [zu_at, zu_atL, zvn]) ?_
  refine zw_zb0 (sf_X12_byteOf (o_1_5 (p1 / 25).toNatClampNeg) ((p1 - ((p1 / 25) * 25)) - 1)) (fun o_25 ho_25 => ?_)
  refine zw_some ?_
  first | exact True.intro | ((try dsimp only); (repeat' apply And.intro) <;> first | with_reducible assumption | first | lia | grind [zu_at, zu_atL, zvn])
