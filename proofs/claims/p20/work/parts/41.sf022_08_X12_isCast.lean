set_option maxHeartbeats 4000000 in
set_option maxRecDepth 100000 in
theorem sf_X12_isCast (p1 : Int32) (p2 : Int32) (f1 : Nat → Int32) (h_p1 : 0 ≤ p1 ∧ p1 ≤ 13) (h_p2 : (-1) ≤ p2 ∧ p2 ≤ 13) (h_f1 : (∀ i : Nat, 0 ≤ f1 i ∧ f1 i ≤ 3)) : zw (fn_X12_isCast p1 p2 f1) (fun r => 0 ≤ r ∧ r ≤ 1 ∧ r ≤ p2 + 1 ∧ (r = 0 → r ≤ p1) ∧ (¬ r = 0 → 0 ≤ p2 ∧ 1 ≤ r ∧ (f1 p1.toNatClampNeg) ≤ 3 ∧ (f1 p2.toNatClampNeg) ≤ 3 ∧ 0 ≤ (f1 p1.toNatClampNeg) ∧ 0 ≤ (f1 p2.toNatClampNeg)) ∧ (r = 1 → 0 ≤ p2 ∧ (f1 p1.toNatClampNeg) ≤ 3 ∧ (f1 p2.toNatClampNeg) ≤ 3 ∧ 0 ≤ (f1 p1.toNatClampNeg) ∧ 0 ≤ (f1 p2.toNatClampNeg) ∧ (f1 p1.toNatClampNeg) ≤ r + 2 ∧ (f1 p2.toNatClampNeg) ≤ r + 2) ∧ (¬ r = 1 → r ≤ 0)) := by
  unfold fn_X12_isCast
  refine zw_if (fun c1 => ?_) (fun c1 => ?_)
  · refine zw_some ?_
    first | exact True.intro | ((try dsimp only); (repeat' apply And.intro) <;> first | with_reducible assumption | first | lia | grind [zu_at, zu_atL, zvn])
  refine zw_zg32 14 (by decide) (by (try dsimp only); first | lia | grind [zu_at, zu_atL, zvn]) ?_
  refine zw_zg32 14 (by decide) (by (try dsimp only); first | lia | grind [zu_at, zu_atL, zvn]) ?_
  refine zw_if (fun c2 => ?_) (fun c2 => ?_)
  · refine zw_some ?_
    first | exact True.intro | ((try dsimp only); (repeat' apply And.intro) <;> first | with_reducible assumption | first | lia | grind [zu_at, zu_atL, zvn])
  refine zw_some ?_
  first | exact True.intro | ((try dsimp only); (repeat' apply And.intro) <;> first | with_reducible assumption | first | lia | grind [zu_at, zu_atL, zvn])
