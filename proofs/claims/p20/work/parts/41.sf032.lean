set_option maxHeartbeats 4000000 in
set_option maxRecDepth 100000 in
theorem sf_X12_broken (p1 : Int32) (v0_58 : Int32) (v0_59 : Int32) : zw (fn_X12_broken p1 v0_58 v0_59) (fun r => True) := by
  unfold fn_X12_broken
  refine zw_if (fun c1 => ?_) (fun c1 => ?_)
  · refine zw_some ?_
    first | exact True.intro | ((try dsimp only); (repeat' apply And.intro) <;> first | with_reducible assumption | first | lia | grind [zu_at, zu_atL, zvn])
  refine zw_if (fun c2 => ?_) (fun c2 => ?_)
  · refine zw_some ?_
    first | exact True.intro | ((try dsimp only); (repeat' apply And.intro) <;> first | with_reducible assumption | first | lia | grind [zu_at, zu_atL, zvn])
  refine zw_some ?_
  first | exact True.intro | ((try dsimp only); (repeat' apply And.intro) <;> first | with_reducible assumption | first | lia | grind [zu_at, zu_atL, zvn])
set_option maxHeartbeats 4000000 in
set_option maxRecDepth 100000 in
theorem sf_X12_draw (j1 : Int64) (v0_64 : Int32) : zw (fn_X12_draw j1 v0_64) (fun r => True) := by
  unfold fn_X12_draw
  refine zw_zn (fun x_1 ex_1 => ?_)
  refine zw_some ?_
  first | exact True.intro | ((try dsimp only); (repeat' apply And.intro) <;> first | with_reducible assumption | first | lia | grind [zu_at, zu_atL, zvn])
set_option maxHeartbeats 4000000 in
set_option maxRecDepth 100000 in
theorem sf_X12_exactOf (p1 : Int32) (p2 : Int32) (f1 : Nat → Int32) (f2 : Nat → Int32) (f3 : Nat → Int64) (f4 : Nat → Int64) (f5 : Nat → Int64) (h_p1 : 0 ≤ p1 ∧ p1 ≤ 13) (h_p2 : 0 ≤ p2 ∧ p2 ≤ 1) (h_f1 : (∀ i : Nat, (-1) ≤ f1 i ∧ f1 i ≤ 13)) (h_f2 : (∀ i : Nat, (-1) ≤ f2 i ∧ f2 i ≤ 13)) : zw (fn_X12_exactOf p1 p2 f1 f2 f3 f4 f5) (fun r => True) := by
  unfold fn_X12_exactOf
  refine zw_zj (fun s_1 => (-1) ≤ s_1 ∧ s_1 ≤ 13) (fun s_1 Hj_1 => ?_) (fun j_1 hj_1 => ?_)
  · obtain ⟨Hj_1_0, Hj_1_1⟩ := Hj_1
    refine zw_if (fun c1 => ?_) (fun c1 => ?_)
    · refine zw_if (fun c2 => ?_) (fun c2 => ?_)
      · refine zw_zg32 28 (by decide) (by (try dsimp only); first | lia | grind [zu_at, zu_atL, zvn]) ?_
        refine zw_some ?_
        first | exact True.intro | ((try dsimp only); (repeat' apply And.intro) <;> first | with_reducible assumption | first | lia | grind [zu_at, zu_atL, zvn])
      refine zw_zg32 28 (by decide) (by (try dsimp only); first | lia | grind [zu_at, zu_atL, zvn]) ?_
      refine zw_some ?_
      first | exact True.intro | ((try dsimp only); (repeat' apply And.intro) <;> first | with_reducible assumption | first | lia | grind [zu_at, zu_atL, zvn])
    refine zw_zg32 14 (by decide) (by (try dsimp only); first | lia | grind [zu_at, zu_atL, zvn]) ?_
    refine zw_some ?_
    first | exact True.intro | ((try dsimp only); (repeat' apply And.intro) <;> first | with_reducible assumption | first | lia | grind [zu_at, zu_atL, zvn])
  refine zw_if (fun c3 => ?_) (fun c3 => ?_)
  · refine zw_zg32 28 (by decide) (by (try dsimp only); first | lia | grind [zu_at, zu_atL, zvn]) ?_
    exact hj_1 _ (by first | exact True.intro | ((try dsimp only); (repeat' apply And.intro) <;> first | with_reducible assumption | first | lia | grind [zu_at, zu_atL, zvn]))
  refine zw_zg32 28 (by decide) (by (try dsimp only); first | lia | grind [zu_at, zu_atL, zvn]) ?_
  exact hj_1 _ (by first | exact True.intro | ((try dsimp only); (repeat' apply And.intro) <;> first | with_reducible assumption | first | lia | grind [zu_at, zu_atL, zvn]))
set_option maxHeartbeats 4000000 in
set_option maxRecDepth 100000 in
theorem sf_X12_castOf (p1 : Int32) (p2 : Int32) (f1 : Nat → Int32) (f2 : Nat → Int32) (f3 : Nat → Int64) (f4 : Nat → Int64) (f5 : Nat → Int64) (f6 : Nat → Int32) (f7 : Nat → Int32) (h_p1 : 0 ≤ p1 ∧ p1 ≤ 13) (h_p2 : 0 ≤ p2 ∧ p2 ≤ 1) (h_f1 : (∀ i : Nat, (-1) ≤ f1 i ∧ f1 i ≤ 13)) (h_f2 : (∀ i : Nat, (-1) ≤ f2 i ∧ f2 i ≤ 13)) (h_f6 : (∀ i : Nat, 0 ≤ f6 i ∧ f6 i ≤ 3)) (hx_0 : (∀ i : Nat, 1 ≤ f7 (f6 i).toNatClampNeg)) : zw (fn_X12_castOf p1 p2 f1 f2 f3 f4 f5 f6 f7) (fun r => True) := by
  unfold fn_X12_castOf
  refine zw_zj (fun s_1 => (-1) ≤ s_1 ∧ s_1 ≤ 13) (fun s_1 Hj_1 => ?_) (fun j_1 hj_1 => ?_)
  · obtain ⟨Hj_1_0, Hj_1_1⟩ := Hj_1
    refine zw_zj (fun s_2 => True) (fun s_2 Hj_2 => ?_) (fun j_2 hj_2 => ?_)
    · refine zw_zg32 14 (by decide) (by (try dsimp only); first | lia | grind [zu_at, zu_atL, zvn, z64_r]) ?_
      refine zw_zg32 8 (by decide) (by (try dsimp only); first | lia | grind [zu_at, zu_atL, zvn, z64_r]) ?_
      refine zw_zb0 (sf_X12_rounded s_2 ((f7 (f6 p1.toNatClampNeg).toNatClampNeg).toInt64) (by first | with_reducible assumption | exact ⟨by with_reducible assumption, by with_reducible assumption⟩ | first | lia | grind [zu_at, zu_atL, zvn, z64_r])) (fun o_5 ho_5 => ?_)
      refine zw_some ?_
      first | exact True.intro | ((try dsimp only); (repeat' apply And.intro) <;> first | with_reducible assumption | first | lia | grind [zu_at, zu_atL, zvn, z64_r])
    refine zw_if (fun c1 => ?_) (fun c1 => ?_)
    · refine zw_if (fun c2 => ?_) (fun c2 => ?_)
      · refine zw_zg32 28 (by decide) (by (try dsimp only); first | lia | grind [zu_at, zu_atL, zvn, z64_r]) ?_
        exact hj_2 _ (by first | exact True.intro | ((try dsimp only); (repeat' apply And.intro) <;> first | with_reducible assumption | first | lia | grind [zu_at, zu_atL, zvn, z64_r]))
      refine zw_zg32 28 (by decide) (by (try dsimp only); first | lia | grind [zu_at, zu_atL, zvn, z64_r]) ?_
      exact hj_2 _ (by first | exact True.intro | ((try dsimp only); (repeat' apply And.intro) <;> first | with_reducible assumption | first | lia | grind [zu_at, zu_atL, zvn, z64_r]))
    refine zw_zg32 14 (by decide) (by (try dsimp only); first | lia | grind [zu_at, zu_atL, zvn, z64_r]) ?_
    exact hj_2 _ (by first | exact True.intro | ((try dsimp only); (repeat' apply And.intro) <;> first | with_reducible assumption | first | lia | grind [zu_at, zu_atL, zvn, z64_r]))
  refine zw_if (fun c3 => ?_) (fun c3 => ?_)
  · refine zw_zg32 28 (by decide) (by (try dsimp only); first | lia | grind [zu_at, zu_atL, zvn, z64_r]) ?_
    exact hj_1 _ (by first | exact True.intro | ((try dsimp only); (repeat' apply And.intro) <;> first | with_reducible assumption | first | lia | grind [zu_at, zu_atL, zvn, z64_r]))
  refine zw_zg32 28 (by decide) (by (try dsimp only); first | lia | grind [zu_at, zu_atL, zvn, z64_r]) ?_
  exact hj_1 _ (by first | exact True.intro | ((try dsimp only); (repeat' apply And.intro) <;> first | with_reducible assumption | first | lia | grind [zu_at, zu_atL, zvn, z64_r]))
