set_option maxHeartbeats 4000000 in
set_option maxRecDepth 100000 in
theorem sf_X3_findUnchanged (v2_0 : Int32) (f3 : Nat → Int32) (f4 : Nat → Int32) (f5 : Nat → Int32) (h_v2_0 : 0 ≤ v2_0 ∧ v2_0 ≤ 14) (h_f4 : (∀ i : Nat, 0 ≤ f4 i ∧ f4 i ≤ 1)) (h_f5 : (∀ i : Nat, 0 ≤ f5 i ∧ f5 i ≤ 13)) : zw (fn_X3_findUnchanged v2_0 f3 f4 f5) (fun r => (∀ i : Nat, 0 ≤ r.2 i ∧ r.2 i ≤ 13) ∧ 0 ≤ r.1 ∧ r.1 ≤ 14) := by
  unfold fn_X3_findUnchanged
  refine zw_zl32 (fun s_1 => (∀ i : Nat, 0 ≤ s_1.2.2 i ∧ s_1.2.2 i ≤ 13) ∧ 0 ≤ s_1.1 ∧ s_1.1 ≤ 14 ∧ 0 ≤ s_1.2.1 ∧ s_1.2.1 ≤ 14 ∧ s_1.1 ≤ v2_0 ∧ s_1.2.1 ≤ v2_0 ∧ s_1.1 ≤ s_1.2.1) (fun s_1 => 14 - s_1.2.1) (by (try dsimp only); (repeat' apply And.intro) <;> first | with_reducible assumption | first | lia | grind [zu_at, zu_atL, zvn]) (by (try dsimp only); first | lia | grind [zu_at, zu_atL, zvn]) (fun s_1 back_1 Hback_1 hback_1 => ?_)
  obtain ⟨s_1_0, s_1_1, s_1_2⟩ := s_1
  try dsimp only at Hback_1 hback_1
  obtain ⟨Hback_1_0, Hback_1_1, Hback_1_2, Hback_1_3, Hback_1_4, Hback_1_5, Hback_1_6, Hback_1_7⟩ := Hback_1
  refine zw_if (fun c1 => ?_) (fun c1 => ?_)
  · refine zw_some ?_
    first | exact True.intro | ((try dsimp only); (repeat' apply And.intro) <;> first | with_reducible assumption | first | lia | grind [zu_at, zu_atL, zvn])
  refine zw_zg32 14 (by decide) (by (try dsimp only); first | lia | grind [zu_at, zu_atL, zvn]) ?_
  refine zw_if (fun c2 => ?_) (fun c2 => ?_)
  · refine zw_if (fun c3 => ?_) (fun c3 => ?_)
    · refine zw_zg32 14 (by decide) (by (try dsimp only); first | lia | grind [zu_at, zu_atL, zvn]) ?_
      exact hback_1 _ (by (try dsimp only); (repeat' apply And.intro) <;> first | with_reducible assumption | first | lia | grind [zu_at, zu_atL, zvn]) (by (try dsimp only); first | lia | grind [zu_at, zu_atL, zvn]) (by (try dsimp only); first | lia | grind [zu_at, zu_atL, zvn])
    exact hback_1 _ (by (try dsimp only); (repeat' apply And.intro) <;> first | with_reducible assumption | first | lia | grind [zu_at, zu_atL, zvn]) (by (try dsimp only); first | lia | grind [zu_at, zu_atL, zvn]) (by (try dsimp only); first | lia | grind [zu_at, zu_atL, zvn])
  exact hback_1 _ (by (try dsimp only); (repeat' apply And.intro) <;> first | with_reducible assumption | first | lia | grind [zu_at, zu_atL, zvn]) (by (try dsimp only); first | lia | grind [zu_at, zu_atL, zvn]) (by (try dsimp only); first | lia | grind [zu_at, zu_atL, zvn])
