set_option maxHeartbeats 4000000 in
set_option maxRecDepth 100000 in
theorem sf_X12_deepOf (p1 : Int32) (f1 : Nat → Int32) (h_p1 : (-1) ≤ p1 ∧ p1 ≤ 13) : zw (fn_X12_deepOf p1 f1) (fun r => (¬ r = 0 → 0 ≤ p1 ∧ (f1 p1.toNatClampNeg) ≤ r ∧ r ≤ (f1 p1.toNatClampNeg))) := by
  unfold fn_X12_deepOf
  refine zw_if (fun c1 => ?_) (fun c1 => ?_)
  · refine zw_some ?_
    first | exact True.intro | ((try dsimp only); (repeat' apply And.intro) <;> first | with_reducible assumption | first | lia | grind [zu_at, zu_atL, zvn])
  refine zw_zg32 14 (by decide) (by (try dsimp only); first | lia | grind [zu_at, zu_atL, zvn]) ?_
  refine zw_some ?_
  first | exact True.intro | ((try dsimp only); (repeat' apply And.intro) <;> first | with_reducible assumption | first | lia | grind [zu_at, zu_atL, zvn])
