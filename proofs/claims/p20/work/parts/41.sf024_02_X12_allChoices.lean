set_option maxHeartbeats 4000000 in
set_option maxRecDepth 100000 in
theorem sf_X12_allChoices (v0_30 : Int32) (f1 : Nat → Int32) (h_v0_30 : 0 ≤ v0_30 ∧ v0_30 ≤ 5) (h_f1 : (∀ i : Nat, 0 ≤ f1 i ∧ f1 i ≤ 4)) : zw (fn_X12_allChoices v0_30 f1) (fun r => 0 ≤ r ∧ r ≤ 1024) := by
  unfold fn_X12_allChoices
  refine zw_zl32 (fun s_1 => zPow s_1.2 s_1.1 ∧ 0 ≤ s_1.1 ∧ 0 ≤ s_1.2 ∧ s_1.1 ≤ 1024 ∧ s_1.2 ≤ 5 ∧ s_1.2 ≤ v0_30) (fun s_1 => 5 - s_1.2) (by (try dsimp only); (repeat' apply And.intro) <;> first | with_reducible assumption | first | lia | grind [zu_at, zu_atL, zvn, zPow_0]) (by (try dsimp only); first | lia | grind [zu_at, zu_atL, zvn, zPow_0]) (fun s_1 back_1 Hback_1 hback_1 => ?_)
  obtain ⟨s_1_0, s_1_1⟩ := s_1
  try dsimp only at Hback_1 hback_1
  obtain ⟨Hback_1_0, Hback_1_1, Hback_1_2, Hback_1_3, Hback_1_4, Hback_1_5⟩ := Hback_1
  refine zw_if (fun c1 => ?_) (fun c1 => ?_)
  · refine zw_some ?_
    first | exact True.intro | ((try dsimp only); (repeat' apply And.intro) <;> first | with_reducible assumption | first | lia | grind [zu_at, zu_atL, zvn, zPow_0])
  have hz := zPow_step Hback_1_0 (by lia) (v := (f1 (0 : Int32).toNatClampNeg)) (by grind) (by grind)
  obtain ⟨hz1, hz2, hz3, hz4⟩ := zPow_rng hz
  exact hback_1 _ (by (try dsimp only); (repeat' apply And.intro) <;> first | with_reducible assumption | first | lia | grind [zu_at, zu_atL, zvn, zPow_0]) (by (try dsimp only); first | lia | grind [zu_at, zu_atL, zvn, zPow_0]) (by (try dsimp only); first | lia | grind [zu_at, zu_atL, zvn, zPow_0])
