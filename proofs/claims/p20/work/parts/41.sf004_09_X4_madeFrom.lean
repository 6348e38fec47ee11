set_option maxHeartbeats 4000000 in
set_option maxRecDepth 100000 in
theorem sf_X4_madeFrom (p1 : Int32) (v0_0 : Int32) (f1 : Nat → Int32) (h_p1 : 0 ≤ p1 ∧ p1 ≤ 13) (h_v0_0 : 0 ≤ v0_0 ∧ v0_0 ≤ 14) : zw (fn_X4_madeFrom p1 v0_0 f1) (fun r => True) := by
  unfold fn_X4_madeFrom
  refine zw_zl32 (fun s_1 => 1 ≤ s_1.2 ∧ s_1.2 ≤ 14 ∧ p1 < s_1.2) (fun s_1 => 14 - s_1.2) (by (try dsimp only); (repeat' apply And.intro) <;> first | with_reducible assumption | first | lia | grind [zu_at, zu_atL, zvn]) (by (try dsimp only); first | lia | grind [zu_at, zu_atL, zvn]) (fun s_1 back_1 Hback_1 hback_1 => ?_)
  obtain ⟨s_1_0, s_1_1⟩ := s_1
  try dsimp only at Hback_1 hback_1
  obtain ⟨Hback_1_0, Hback_1_1, Hback_1_2⟩ := Hback_1
  refine zw_if (fun c1 => ?_) (fun c1 => ?_)
  · refine zw_some ?_
    first | exact True.intro | ((try dsimp only); (repeat' apply And.intro) <;> first | with_reducible assumption | first | lia | grind [zu_at, zu_atL, zvn])
  refine zw_zb0 (sf_X4_madeOf s_1_1 0 v0_0 f1 (by first | with_reducible assumption | exact ⟨by with_reducible assumption, by with_reducible assumption⟩ | first | lia | grind [zu_at, zu_atL, zvn])) (fun o_3 ho_3 => ?_)
  refine zw_zb0 (sf_X4_isAmong p1 s_1_0 o_3) (fun o_7 ho_7 => ?_)
  obtain ⟨ho_7_0, ho_7_1, ho_7_2, ho_7_3⟩ := ho_7
  refine zw_if (fun c2 => ?_) (fun c2 => ?_)
  · refine zw_zb0 (sf_X4_madeOf s_1_1 1 v0_0 f1 (by first | with_reducible assumption | exact ⟨by with_reducible assumption, by with_reducible assumption⟩ | first | lia | grind [zu_at, zu_atL, zvn])) (fun o_12 ho_12 => ?_)
    refine zw_zb0 (sf_X4_isAmong p1 s_1_0 o_12) (fun o_16 ho_16 => ?_)
    obtain ⟨ho_16_0, ho_16_1, ho_16_2, ho_16_3⟩ := ho_16
    refine zw_if (fun c3 => ?_) (fun c3 => ?_)
    · exact hback_1 _ (by (try dsimp only); (repeat' apply And.intro) <;> first | with_reducible assumption | first | lia | grind [zu_at, zu_atL, zvn]) (by (try dsimp only); first | lia | grind [zu_at, zu_atL, zvn]) (by (try dsimp only); first | lia | grind [zu_at, zu_atL, zvn])
    exact hback_1 _ (by (try dsimp only); (repeat' apply And.intro) <;> first | with_reducible assumption | first | lia | grind [zu_at, zu_atL, zvn]) (by (try dsimp only); first | lia | grind [zu_at, zu_atL, zvn]) (by (try dsimp only); first | lia | grind [zu_at, zu_atL, zvn])
  exact hback_1 _ (by (try dsimp only); (repeat' apply And.intro) <;> first | with_reducible assumption | first | lia | grind [zu_at, zu_atL, zvn]) (by (try dsimp only); first | lia | grind [zu_at, zu_atL, zvn]) (by (try dsimp only); first | lia | grind [zu_at, zu_atL, zvn])
