set_option maxHeartbeats 4000000 in
set_option maxRecDepth 100000 in
theorem sf_X12_blame (p1 : Int32) (p2 : Int32) (v0_33 : Int32) (w0_34 : Int64) (v0_38 : Int32) (v0_41 : Int32) (v0_42 : Int32) (f1 : Nat → Int32) (f2 : Nat → Int32) (f3 : Nat → Int32) (f4 : Nat → Int32) (f5 : Nat → Int32) (f6 : Nat → Int32) (f7 : Nat → Int32) (f8 : Nat → Int32) (f9 : Nat → Int32) (f10 : Nat → Int64) (f11 : Nat → Int64) (f12 : Nat → Int64) (f13 : Nat → Int64) (f14 : Nat → Int32) (f15 : Nat → Int64) (f16 : Nat → Int32) (f17 : Nat → Int32) (h_v0_38 : 0 ≤ v0_38 ∧ v0_38 ≤ 1) (h_f1 : (∀ i : Nat, 0 ≤ f1 i ∧ f1 i ≤ 14)) (h_f3 : (∀ i : Nat, 0 ≤ f3 i ∧ f3 i ≤ 13)) (h_f4 : (∀ i : Nat, (-1) ≤ f4 i ∧ f4 i ≤ 3)) (h_f5 : (∀ i : Nat, 0 ≤ f5 i ∧ f5 i ≤ 3)) (h_f6 : (∀ i : Nat, 0 ≤ f6 i ∧ f6 i ≤ 3)) (h_f8 : (∀ i : Nat, (-1) ≤ f8 i ∧ f8 i ≤ 13)) (h_f9 : (∀ i : Nat, (-1) ≤ f9 i ∧ f9 i ≤ 13)) (h_f17 : (∀ i : Nat, 0 ≤ f17 i ∧ f17 i ≤ 4)) (hx_0 : f1 (0 : Int32).toNatClampNeg ≤ 0 ∨ 1 ≤ f17 (0 : Int32).toNatClampNeg ∧ (∀ x : Int32, 0 ≤ x → x < f17 (0 : Int32).toNatClampNeg → 1 ≤ f14 x.toNatClampNeg) ∧ (∀ i : Nat, 1 ≤ f14 (f5 i).toNatClampNeg) ∧ (∀ i : Nat, 1 ≤ f14 (f6 i).toNatClampNeg)) : zw (fn_X12_blame p1 p2 v0_33 w0_34 v0_38 v0_41 v0_42 f1 f2 f3 f4 f5 f6 f7 f8 f9 f10 f11 f12 f13 f14 f15 f16 f17) (fun r => (∀ i : Nat, 0 ≤ r.2.2.2.2.1 i ∧ r.2.2.2.2.1 i ≤ 3) ∧ (∀ i : Nat, r.2.2.2.2.1 i = f5 i ∨ r.2.2.2.2.1 i = f6 i ∨ 0 ≤ r.2.2.2.2.1 i ∧ r.2.2.2.2.1 i < f17 (0 : Int32).toNatClampNeg)) := by
  unfold fn_X12_blame
  refine zw_zb0 (sf_X12_isAnswer p1 f1 f2 (by first | with_reducible assumption | exact ⟨by with_reducible assumption, by with_reducible assumption⟩ | first | lia | grind [zu_at, zu_atL, zvn])) (fun o_1 ho_1 => ?_)
  obtain ⟨ho_1_0, ho_1_1, ho_1_2, ho_1_3, ho_1_4, ho_1_5⟩ := ho_1
  refine zw_if (fun c1 => ?_) (fun c1 => ?_)
  · refine zw_some ?_
    first | exact True.intro | ((try dsimp only); (repeat' apply And.intro) <;> first | with_reducible assumption | first | lia | grind [zu_at, zu_atL, zvn])
  refine zw_zb0 (sf_X12_isNumber p2 f1 (by first | with_reducible assumption | exact ⟨by with_reducible assumption, by with_reducible assumption⟩ | first | lia | grind [zu_at, zu_atL, zvn])) (fun o_6 ho_6 => ?_)
  obtain ⟨ho_6_0, ho_6_1, ho_6_2, ho_6_3, ho_6_4, ho_6_5⟩ := ho_6
  refine zw_if (fun c2 => ?_) (fun c2 => ?_)
  · refine zw_some ?_
    first | exact True.intro | ((try dsimp only); (repeat' apply And.intro) <;> first | with_reducible assumption | first | lia | grind [zu_at, zu_atL, zvn])
  refine zw_zg32 28 (by decide) (by (try dsimp only); first | lia | grind [zu_at, zu_atL, zvn]) ?_
  refine zw_zb0 (sf_X12_isFree (f3 p2.toNatClampNeg) f1 f3 f4 (by first | with_reducible assumption | exact ⟨by with_reducible assumption, by with_reducible assumption⟩ | first | lia | grind [zu_at, zu_atL, zvn]) (by first | with_reducible assumption | exact ⟨by with_reducible assumption, by with_reducible assumption⟩ | first | lia | grind [zu_at, zu_atL, zvn]) (by first | with_reducible assumption | exact ⟨by with_reducible assumption, by with_reducible assumption⟩ | first | lia | grind [zu_at, zu_atL, zvn])) (fun o_12 ho_12 => ?_)
  obtain ⟨ho_12_0, ho_12_1, ho_12_2, ho_12_3, ho_12_4, ho_12_5⟩ := ho_12
  refine zw_if (fun c3 => ?_) (fun c3 => ?_)
  · refine zw_some ?_
    first | exact True.intro | ((try dsimp only); (repeat' apply And.intro) <;> first | with_reducible assumption | first | lia | grind [zu_at, zu_atL, zvn])
  refine zw_zb0 (sf_X12_handPasses w0_34 v0_38 v0_41 v0_42 f1 f5 f6 f7 f8 f9 f10 f11 f12 f13 f14 f15 f16 f2 (by first | with_reducible assumption | exact ⟨by with_reducible assumption, by with_reducible assumption⟩ | first | lia | grind [zu_at, zu_atL, zvn]) (by first | with_reducible assumption | exact ⟨by with_reducible assumption, by with_reducible assumption⟩ | first | lia | grind [zu_at, zu_atL, zvn]) (by first | with_reducible assumption | exact ⟨by with_reducible assumption, by with_reducible assumption⟩ | first | lia | grind [zu_at, zu_atL, zvn]) (by first | with_reducible assumption | exact ⟨by with_reducible assumption, by with_reducible assumption⟩ | first | lia | grind [zu_at, zu_atL, zvn]) (by first | with_reducible assumption | exact ⟨by with_reducible assumption, by with_reducible assumption⟩ | first | lia | grind [zu_at, zu_atL, zvn]) (by first | with_reducible assumption | exact ⟨by with_reducible assumption, by with_reducible assumption⟩ | first | lia | grind [zu_at, zu_atL, zvn]) (by first | with_reducible assumption | exact ⟨by with_reducible assumption, by with_reducible assumption⟩ | first | lia | grind [zu_at, zu_atL, zvn])) (fun o_17 ho_17 => ?_)
  obtain ⟨o_17_0, o_17_1, o_17_2, o_17_3, o_17_4, o_17_5, o_17_6, o_17_7⟩ := o_17
  try dsimp only at ho_17
  obtain ⟨ho_17_0, ho_17_1, ho_17_2, ho_17_3, ho_17_4, ho_17_5, ho_17_6, ho_17_7, ho_17_8, ho_17_9, ho_17_10⟩ := ho_17
  refine zw_if (fun c4 => ?_) (fun c4 => ?_)
  · refine zw_some ?_
    first | exact True.intro | ((try dsimp only); (repeat' apply And.intro) <;> first | with_reducible assumption | first | lia | grind [zu_at, zu_atL, zvn])
  refine zw_zg32 14 (by decide) (by (try dsimp only); first | lia | grind [zu_at, zu_atL, zvn]) ?_
  refine zw_zb0 (sf_X12_finest f17 f14 (by first | with_reducible assumption | exact ⟨by with_reducible assumption, by with_reducible assumption⟩ | first | lia | grind [zu_at, zu_atL, zvn]) (by first | with_reducible assumption | exact ⟨by with_reducible assumption, by with_reducible assumption⟩ | first | lia | grind [zu_at, zu_atL, zvn]) (by first | with_reducible assumption | exact ⟨by with_reducible assumption, by with_reducible assumption⟩ | first | lia | grind [zu_at, zu_atL, zvn])) (fun o_23 ho_23 => ?_)
  obtain ⟨ho_23_0, ho_23_1, ho_23_2, ho_23_3⟩ := ho_23
  refine zw_zb0 (sf_X12_triesGroup (f3 p2.toNatClampNeg) o_23 f1 f3 o_17_4 (by first | with_reducible assumption | exact ⟨by with_reducible assumption, by with_reducible assumption⟩ | first | lia | grind [zu_at, zu_atL, zvn]) (by first | with_reducible assumption | exact ⟨by with_reducible assumption, by with_reducible assumption⟩ | first | lia | grind [zu_at, zu_atL, zvn]) (by first | with_reducible assumption | exact ⟨by with_reducible assumption, by with_reducible assumption⟩ | first | lia | grind [zu_at, zu_atL, zvn]) (by first | with_reducible assumption | exact ⟨by with_reducible assumption, by with_reducible assumption⟩ | first | lia | grind [zu_at, zu_atL, zvn])) (fun o_27 ho_27 => ?_)
  obtain ⟨ho_27_0, ho_27_1⟩ := ho_27
  refine zw_zb0 (sf_X12_passes o_17_1 w0_34 f1 f7 f8 f9 o_17_5 f11 f12 o_17_6 o_27 f14 o_17_7 f16 f2 (by first | with_reducible assumption | exact ⟨by with_reducible assumption, by with_reducible assumption⟩ | first | lia | grind [zu_at, zu_atL, zvn]) (by first | with_reducible assumption | exact ⟨by with_reducible assumption, by with_reducible assumption⟩ | first | lia | grind [zu_at, zu_atL, zvn]) (by first | with_reducible assumption | exact ⟨by with_reducible assumption, by with_reducible assumption⟩ | first | lia | grind [zu_at, zu_atL, zvn]) (by first | with_reducible assumption | exact ⟨by with_reducible assumption, by with_reducible assumption⟩ | first | lia | grind [zu_at, zu_atL, zvn]) (by first | with_reducible assumption | exact ⟨by with_reducible assumption, by with_reducible assumption⟩ | first | lia | grind [zu_at, zu_atL, zvn])) (fun o_31 ho_31 => ?_)
  obtain ⟨o_31_0, o_31_1, o_31_2, o_31_3, o_31_4, o_31_5⟩ := o_31
  try dsimp only at ho_31
  obtain ⟨ho_31_0, ho_31_1, ho_31_2, ho_31_3, ho_31_4, ho_31_5, ho_31_6, ho_31_7, ho_31_8, ho_31_9, ho_31_10, ho_31_11, ho_31_12⟩ := ho_31
  refine zw_if (fun c5 => ?_) (fun c5 => ?_)
  · refine zw_some ?_
    first | exact True.intro | ((try dsimp only); (repeat' apply And.intro) <;> first | with_reducible assumption | first | lia | grind [zu_at, zu_atL, zvn])
  refine zw_zn (fun x_36 ex_36 => ?_)
  refine zw_some ?_
  first | exact True.intro | ((try dsimp only); (repeat' apply And.intro) <;> first | with_reducible assumption | first | lia | grind [zu_at, zu_atL, zvn])
