set_option maxHeartbeats 4000000 in
set_option maxRecDepth 100000 in
theorem sf_X12_breaks (p1 : Int32) (v0_33 : Int32) (w0_34 : Int64) (f1 : Nat → Int32) (f2 : Nat → Int32) (f3 : Nat → Int32) (f4 : Nat → Int32) (f5 : Nat → Int32) (f6 : Nat → Int32) (f7 : Nat → Int32) (f8 : Nat → Int32) (f9 : Nat → Int32) (f10 : Nat → Int64) (f11 : Nat → Int64) (f12 : Nat → Int64) (f13 : Nat → Int64) (f14 : Nat → Int32) (f15 : Nat → Int64) (f16 : Nat → Int64) (f17 : Nat → Int64) (f18 : Nat → Int64) (f19 : Nat → Int32) (f20 : Nat → Int32) (h_p1 : 0 ≤ p1 ∧ p1 ≤ 13) (h_f2 : (∀ i : Nat, 0 ≤ f2 i ∧ f2 i ≤ 4)) (h_f3 : (∀ i : Nat, 0 ≤ f3 i ∧ f3 i ≤ 14)) (h_f4 : (∀ i : Nat, 0 ≤ f4 i ∧ f4 i ≤ 13)) (h_f5 : (∀ i : Nat, (-1) ≤ f5 i ∧ f5 i ≤ 3)) (h_f6 : (∀ i : Nat, 0 ≤ f6 i ∧ f6 i ≤ 3)) (h_f8 : (∀ i : Nat, (-1) ≤ f8 i ∧ f8 i ≤ 13)) (h_f9 : (∀ i : Nat, (-1) ≤ f9 i ∧ f9 i ≤ 13)) (hr_0 : 1 ≤ (f2 (0 : Int32).toNatClampNeg)) (hx_0 : (∀ x : Int32, 0 ≤ x → x < f2 (0 : Int32).toNatClampNeg → 1 ≤ f14 x.toNatClampNeg)) (hx_1 : (∀ i : Nat, 1 ≤ f14 (f6 i).toNatClampNeg)) : zw (fn_X12_breaks p1 v0_33 w0_34 f1 f2 f3 f4 f5 f6 f7 f8 f9 f10 f11 f12 f13 f14 f15 f16 f17 f18 f19 f20) (fun r => (∀ i : Nat, 0 ≤ r.2.1 i ∧ r.2.1 i ≤ 3) ∧ 0 ≤ r.1 ∧ r.1 ≤ 6 ∧ (∀ i : Nat, r.2.1 i = f6 i ∨ 0 ≤ r.2.1 i ∧ r.2.1 i < f2 (0 : Int32).toNatClampNeg)) := by
  unfold fn_X12_breaks
  refine zw_zb0 (sf_X12_isFormatSaid p1 f1 f2 f3 f4 f5 (by first | with_reducible assumption | exact ⟨by with_reducible assumption, by with_reducible assumption⟩ | first | lia | grind [zu_at, zu_atL, zvn]) (by first | with_reducible assumption | exact ⟨by with_reducible assumption, by with_reducible assumption⟩ | first | lia | grind [zu_at, zu_atL, zvn]) (by first | with_reducible assumption | exact ⟨by with_reducible assumption, by with_reducible assumption⟩ | first | lia | grind [zu_at, zu_atL, zvn]) (by first | with_reducible assumption | exact ⟨by with_reducible assumption, by with_reducible assumption⟩ | first | lia | grind [zu_at, zu_atL, zvn]) (by first | with_reducible assumption | exact ⟨by with_reducible assumption, by with_reducible assumption⟩ | first | lia | grind [zu_at, zu_atL, zvn])) (fun o_1 ho_1 => ?_)
  obtain ⟨ho_1_0, ho_1_1, ho_1_2, ho_1_3, ho_1_4, ho_1_5, ho_1_6, ho_1_7⟩ := ho_1
  refine zw_if (fun c1 => ?_) (fun c1 => ?_)
  · refine zw_some ?_
    first | exact True.intro | ((try dsimp only); (repeat' apply And.intro) <;> first | with_reducible assumption | first | lia | grind [zu_at, zu_atL, zvn])
  refine zw_zg32 14 (by decide) (by (try dsimp only); first | lia | grind [zu_at, zu_atL, zvn]) ?_
  refine zw_zb0 (sf_X12_laysRange p1 v0_33 w0_34 f7 f8 f9 f10 f11 f12 f13 (by first | with_reducible assumption | exact ⟨by with_reducible assumption, by with_reducible assumption⟩ | first | lia | grind [zu_at, zu_atL, zvn]) (by first | with_reducible assumption | exact ⟨by with_reducible assumption, by with_reducible assumption⟩ | first | lia | grind [zu_at, zu_atL, zvn]) (by first | with_reducible assumption | exact ⟨by with_reducible assumption, by with_reducible assumption⟩ | first | lia | grind [zu_at, zu_atL, zvn])) (fun o_7 ho_7 => ?_)
  obtain ⟨o_7_0, o_7_1⟩ := o_7
  try dsimp only at ho_7
  refine zw_zb0 (sf_X12_laysError p1 (upd f6 p1.toNatClampNeg (f1 p1.toNatClampNeg)) f14 f7 f8 f9 f15 f11 f12 o_7_0 o_7_1 (by first | with_reducible assumption | exact ⟨by with_reducible assumption, by with_reducible assumption⟩ | first | lia | grind [zu_at, zu_atL, zvn]) (by first | with_reducible assumption | exact ⟨by with_reducible assumption, by with_reducible assumption⟩ | first | lia | grind [zu_at, zu_atL, zvn]) (by first | with_reducible assumption | exact ⟨by with_reducible assumption, by with_reducible assumption⟩ | first | lia | grind [zu_at, zu_atL, zvn]) (by first | with_reducible assumption | exact ⟨by with_reducible assumption, by with_reducible assumption⟩ | first | lia | grind [zu_at, zu_atL, zvn]) (by first | with_reducible assumption | exact ⟨by with_reducible assumption, by with_reducible assumption⟩ | first | lia | grind [zu_at, zu_atL, zvn])) (fun o_11 ho_11 => ?_)
  refine zw_ifc (lg_cmp_le _ _) (fun c2 => ?_) (fun c2 => ?_)
  · refine zw_ifc (lg_cmp_ge _ _) (fun c3 => ?_) (fun c3 => ?_)
    · refine zw_ifc (lg_cmp_lt _ _) (fun c4 => ?_) (fun c4 => ?_)
      · refine zw_some ?_
        first | exact True.intro | ((try dsimp only); (repeat' apply And.intro) <;> first | with_reducible assumption | first | lia | grind [zu_at, zu_atL, zvn])
      refine zw_ifc (lg_cmp_ge _ _) (fun c5 => ?_) (fun c5 => ?_)
      · refine zw_zb0 (sf_X12_mostOf p1 (vp_updL o_7_0 p1.toNatClampNeg (f16 p1.toNatClampNeg)) (vp_updL o_7_1 p1.toNatClampNeg (f17 p1.toNatClampNeg)) (by first | with_reducible assumption | exact ⟨by with_reducible assumption, by with_reducible assumption⟩ | first | lia | grind [zu_at, zu_atL, zvn])) (fun o_19 ho_19 => ?_)
        refine zw_zn (fun x_23 ex_23 => ?_)
        refine zw_zg32 8 (by decide) (by (try dsimp only); first | lia | grind [zu_at, zu_atL, zvn]) ?_
        refine zw_zn (fun x_25 ex_25 => ?_)
        refine zw_ifc (lg_cmp_le _ _) (fun c6 => ?_) (fun c6 => ?_)
        · refine zw_zg32 28 (by decide) (by (try dsimp only); first | lia | grind [zu_at, zu_atL, zvn]) ?_
          refine zw_if (fun c7 => ?_) (fun c7 => ?_)
          · refine zw_some ?_
            first | exact True.intro | ((try dsimp only); (repeat' apply And.intro) <;> first | with_reducible assumption | first | lia | grind [zu_at, zu_atL, zvn])
          refine zw_zn (fun x_29 ex_29 => ?_)
          refine zw_ifc (lg_cmp_le _ _) (fun c8 => ?_) (fun c8 => ?_)
          · refine zw_some ?_
            first | exact True.intro | ((try dsimp only); (repeat' apply And.intro) <;> first | with_reducible assumption | first | lia | grind [zu_at, zu_atL, zvn])
          refine zw_some ?_
          first | exact True.intro | ((try dsimp only); (repeat' apply And.intro) <;> first | with_reducible assumption | first | lia | grind [zu_at, zu_atL, zvn])
        refine zw_some ?_
        first | exact True.intro | ((try dsimp only); (repeat' apply And.intro) <;> first | with_reducible assumption | first | lia | grind [zu_at, zu_atL, zvn])
      refine zw_some ?_
      first | exact True.intro | ((try dsimp only); (repeat' apply And.intro) <;> first | with_reducible assumption | first | lia | grind [zu_at, zu_atL, zvn])
    refine zw_some ?_
    first | exact True.intro | ((try dsimp only); (repeat' apply And.intro) <;> first | with_reducible assumption | first | lia | grind [zu_at, zu_atL, zvn])
  refine zw_some ?_
  first | exact True.intro | ((try dsimp only); (repeat' apply And.intro) <;> first | with_reducible assumption | first | lia | grind [zu_at, zu_atL, zvn])
