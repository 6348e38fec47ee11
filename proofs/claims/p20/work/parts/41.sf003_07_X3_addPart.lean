set_option maxHeartbeats 4000000 in
set_option maxRecDepth 100000 in
theorem sf_X3_addPart (p1 : Int32) (p2 : Int32) (v0_8 : Int32) (f1 : Nat → Int32) (f2 : Nat → Int32) (h_p1 : 0 ≤ p1 ∧ p1 ≤ 14) (h_p2 : 0 ≤ p2 ∧ p2 ≤ 14) (h_v0_8 : 0 ≤ v0_8 ∧ v0_8 ≤ 28) (h_f1 : (∀ i : Nat, 0 ≤ f1 i ∧ f1 i ≤ 14)) (h_f2 : (∀ i : Nat, 0 ≤ f2 i ∧ f2 i ≤ 14)) : zw (fn_X3_addPart p1 p2 v0_8 f1 f2) (fun r => 0 ≤ r.1 ∧ r.1 ≤ 28 ∧ (∀ i : Nat, 0 ≤ r.2.1 i ∧ r.2.1 i ≤ 14) ∧ (∀ i : Nat, 0 ≤ r.2.2 i ∧ r.2.2 i ≤ 14) ∧ 1 ≤ r.1) := by
  unfold fn_X3_addPart
  refine zw_if (fun c1 => ?_) (fun c1 => ?_)
  · refine zw_some ?_
    first | exact True.intro | ((try dsimp only); (repeat' apply And.intro) <;> first | with_reducible assumption | first | lia | grind [zu_at, zu_atL, zvn])
  refine zw_zg32 28 (by decide) (by (try dsimp only); first | lia | grind [zu_at, zu_atL, zvn]) ?_
  refine zw_some ?_
  first | exact True.intro | ((try dsimp only); (repeat' apply And.intro) <;> first | with_reducible assumption | first | lia | grind [zu_at, zu_atL, zvn])
