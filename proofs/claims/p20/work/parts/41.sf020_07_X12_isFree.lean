set_option maxHeartbeats 4000000 in
set_option maxRecDepth 100000 in
theorem sf_X12_isFree (p1 : Int32) (f1 : Nat → Int32) (f2 : Nat → Int32) (f3 : Nat → Int32) (h_f1 : (∀ i : Nat, 0 ≤ f1 i ∧ f1 i ≤ 14)) (h_f2 : (∀ i : Nat, 0 ≤ f2 i ∧ f2 i ≤ 13)) (h_f3 : (∀ i : Nat, (-1) ≤ f3 i ∧ f3 i ≤ 3)) : zw (fn_X12_isFree p1 f1 f2 f3) (fun r => 0 ≤ r ∧ r ≤ 1 ∧ r ≤ (f1 (0 : Int32).toNatClampNeg) + 1 ∧ (¬ r = 1 → 0 ≤ p1 ∧ p1 ≤ 13 ∧ r ≤ 0 ∧ 1 ≤ (f1 (0 : Int32).toNatClampNeg)) ∧ (r = 0 → 0 ≤ p1 ∧ p1 ≤ 13 ∧ r ≤ p1 ∧ 1 ≤ (f1 (0 : Int32).toNatClampNeg) ∧ r < (f1 (0 : Int32).toNatClampNeg)) ∧ (¬ r = 0 → 1 ≤ r)) := by
  unfold fn_X12_isFree
  refine zw_zl32 (fun s_1 => 0 ≤ s_1 ∧ s_1 ≤ 14) (fun s_1 => 14 - s_1) (by (try dsimp only); (repeat' apply And.intro) <;> first | with_reducible assumption | first | lia | grind [zu_at, zu_atL, zvn]) (by (try dsimp only); first | lia | grind [zu_at, zu_atL, zvn]) (fun s_1 back_1 Hback_1 hback_1 => ?_)
  obtain ⟨Hback_1_0, Hback_1_1⟩ := Hback_1
  refine zw_if (fun c1 => ?_) (fun c1 => ?_)
  · refine zw_some ?_
    first | exact True.intro | ((try dsimp only); (repeat' apply And.intro) <;> first | with_reducible assumption | first | lia | grind [zu_at, zu_atL, zvn])
  refine zw_zg32 28 (by decide) (by (try dsimp only); first | lia | grind [zu_at, zu_atL, zvn]) ?_
  refine zw_if (fun c2 => ?_) (fun c2 => ?_)
  · refine zw_if (fun c3 => ?_) (fun c3 => ?_)
    · exact hback_1 _ (by (try dsimp only); (repeat' apply And.intro) <;> first | with_reducible assumption | first | lia | grind [zu_at, zu_atL, zvn]) (by (try dsimp only); first | lia | grind [zu_at, zu_atL, zvn]) (by (try dsimp only); first | lia | grind [zu_at, zu_atL, zvn])
    refine zw_some ?_
    first | exact True.intro | ((try dsimp only); (repeat' apply And.intro) <;> first | with_reducible assumption | first | lia | grind [zu_at, zu_atL, zvn])
  exact hback_1 _ (by (try dsimp only); (repeat' apply And.intro) <;> first | with_reducible assumption | first | lia | grind [zu_at, zu_atL, zvn]) (by (try dsimp only); first | lia | grind [zu_at, zu_atL, zvn]) (by (try dsimp only); first | lia | grind [zu_at, zu_atL, zvn])
