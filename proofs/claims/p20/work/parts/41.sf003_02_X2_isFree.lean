set_option maxHeartbeats 4000000 in
set_option maxRecDepth 100000 in
theorem sf_X2_isFree (p1 : Int32) (v0_0 : Int32) (f1 : Nat → Int32) (h_v0_0 : 0 ≤ v0_0 ∧ v0_0 ≤ 14) : zw (fn_X2_isFree p1 v0_0 f1) (fun r => 0 ≤ r ∧ r ≤ 1 ∧ r ≤ v0_0 ∧ (¬ r = 0 → 0 ≤ p1 ∧ 1 ≤ r ∧ p1 ≤ 13 ∧ p1 < v0_0 ∧ (f1 p1.toNatClampNeg) ≤ (-1) ∧ (-1) ≤ (f1 p1.toNatClampNeg)) ∧ (r = 1 → 0 ≤ p1 ∧ p1 ≤ 13 ∧ 1 ≤ v0_0 ∧ p1 < v0_0 ∧ (f1 p1.toNatClampNeg) ≤ (-1) ∧ (-1) ≤ (f1 p1.toNatClampNeg) ∧ (f1 p1.toNatClampNeg) + 2 ≤ r) ∧ (¬ r = 1 → r ≤ 0)) := by
  unfold fn_X2_isFree
  refine zw_if (fun c1 => ?_) (fun c1 => ?_)
  · refine zw_some ?_
    first | exact True.intro | ((try dsimp only); (repeat' apply And.intro) <;> first | with_reducible assumption | first | lia | grind [zu_at, zu_atL, zvn])
  refine zw_if (fun c2 => ?_) (fun c2 => ?_)
  · refine zw_some ?_
    first | exact True.intro | ((try dsimp only); (repeat' apply And.intro) <;> first | with_reducible assumption | first | lia | grind [zu_at, zu_atL, zvn])
  refine zw_zg32 14 (by decide) (by (try dsimp only); first | lia | grind [zu_at, zu_atL, zvn]) ?_
  refine zw_if (fun c3 => ?_) (fun c3 => ?_)
  · refine zw_some ?_
    first | exact True.intro | ((try dsimp only); (repeat' apply And.intro) <;> first | with_reducible assumption | first | lia | grind [zu_at, zu_atL, zvn])
  refine zw_some ?_
  first | exact True.intro | ((try dsimp only); (repeat' apply And.intro) <;> first | with_reducible assumption | first | lia | grind [zu_at, zu_atL, zvn])
