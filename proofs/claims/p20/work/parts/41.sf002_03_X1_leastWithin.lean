set_option maxHeartbeats 4000000 in
set_option maxRecDepth 100000 in
theorem sf_X1_leastWithin (p2 : Int32) (p3 : Int32) (v0_3 : Int32) (v0_6 : Int32) (v2_0 : Int32) (f3 : Nat → Int32) (n4 : Nat) (f4 : Nat → Int32) (n5 : Nat) (f5 : Nat → Int32) (h_v0_3 : 0 ≤ v0_3 ∧ v0_3 ≤ 14) (h_v0_6 : 0 ≤ v0_6 ∧ v0_6 ≤ 1024) (h_v2_0 : 0 ≤ v2_0 ∧ v2_0 ≤ 14) (h_n4 : n4 ≤ 1024) (hN_n4 : 0 ≤ Int32.ofNat n4 ∧ Int32.ofNat n4 ≤ 1024) (h_n5 : n5 ≤ 14336) (hN_n5 : 0 ≤ Int32.ofNat n5 ∧ Int32.ofNat n5 ≤ 14336) (hr_0 : v0_6 ≤ (Int32.ofNat n4)) : zw (fn_X1_leastWithin p2 p3 v0_3 v0_6 v2_0 f3 n4 f4 n5 f5) (fun r => True) := by
  unfold fn_X1_leastWithin
  refine zw_zb0 (sf_X4_countAnswers p2 v2_0 f3 (by first | with_reducible assumption | exact ⟨by with_reducible assumption, by with_reducible assumption⟩ | first | lia | grind [zu_at, zu_atL, zvn])) (fun o_1 ho_1 => ?_)
  obtain ⟨ho_1_0, ho_1_1, ho_1_2⟩ := ho_1
  refine zw_zl32 (fun s_5 => 0 ≤ s_5.2 ∧ s_5.2 ≤ 1024 ∧ s_5.2 ≤ v0_6) (fun s_5 => 1024 - s_5.2) (by (try dsimp only); (repeat' apply And.intro) <;> first | with_reducible assumption | first | lia | grind [zu_at, zu_atL, zvn]) (by (try dsimp only); first | lia | grind [zu_at, zu_atL, zvn]) (fun s_5 back_5 Hback_5 hback_5 => ?_)
  obtain ⟨s_5_0, s_5_1⟩ := s_5
  try dsimp only at Hback_5 hback_5
  obtain ⟨Hback_5_0, Hback_5_1, Hback_5_2⟩ := Hback_5
  refine zw_if (fun c1 => ?_) (fun c1 => ?_)
  · refine zw_some ?_
    first | exact True.intro | ((try dsimp only); (repeat' apply And.intro) <;> first | with_reducible assumption | first | lia | grind [zu_at, zu_atL, zvn])
  refine zw_zgN (by (try dsimp only); first | lia | grind [zu_at, zu_atL, zvn]) (by (try dsimp only); first | lia | grind [zu_at, zu_atL, zvn]) ?_
  refine zw_if (fun c2 => ?_) (fun c2 => ?_)
  · exact hback_5 _ (by (try dsimp only); (repeat' apply And.intro) <;> first | with_reducible assumption | first | lia | grind [zu_at, zu_atL, zvn]) (by (try dsimp only); first | lia | grind [zu_at, zu_atL, zvn]) (by (try dsimp only); first | lia | grind [zu_at, zu_atL, zvn])
  refine zw_ifc (lg_cmp_eq _ _) (fun c3 => ?_) (fun c3 => ?_)
  · refine zw_zb0 (sf_X1_errorAt s_5_1 o_1 v0_3 n5 f5 (by first | with_reducible assumption | exact ⟨by with_reducible assumption, by with_reducible assumption⟩ | first | lia | grind [zu_at, zu_atL, zvn]) (by first | with_reducible assumption | exact ⟨by with_reducible assumption, by with_reducible assumption⟩ | first | lia | grind [zu_at, zu_atL, zvn]) (by first | with_reducible assumption | exact ⟨by with_reducible assumption, by with_reducible assumption⟩ | first | lia | grind [zu_at, zu_atL, zvn])) (fun o_10 ho_10 => ?_)
    exact hback_5 _ (by (try dsimp only); (repeat' apply And.intro) <;> first | with_reducible assumption | first | lia | grind [zu_at, zu_atL, zvn]) (by (try dsimp only); first | lia | grind [zu_at, zu_atL, zvn]) (by (try dsimp only); first | lia | grind [zu_at, zu_atL, zvn])
  refine zw_zb0 (sf_X1_errorAt s_5_1 o_1 v0_3 n5 f5 (by first | with_reducible assumption | exact ⟨by with_reducible assumption, by with_reducible assumption⟩ | first | lia | grind [zu_at, zu_atL, zvn]) (by first | with_reducible assumption | exact ⟨by with_reducible assumption, by with_reducible assumption⟩ | first | lia | grind [zu_at, zu_atL, zvn]) (by first | with_reducible assumption | exact ⟨by with_reducible assumption, by with_reducible assumption⟩ | first | lia | grind [zu_at, zu_atL, zvn])) (fun o_14 ho_14 => ?_)
  refine zw_ifc (lg_cmp_ge _ _) (fun c4 => ?_) (fun c4 => ?_)
  · exact hback_5 _ (by (try dsimp only); (repeat' apply And.intro) <;> first | with_reducible assumption | first | lia | grind [zu_at, zu_atL, zvn]) (by (try dsimp only); first | lia | grind [zu_at, zu_atL, zvn]) (by (try dsimp only); first | lia | grind [zu_at, zu_atL, zvn])
  refine zw_zb0 (sf_X1_errorAt s_5_1 o_1 v0_3 n5 f5 (by first | with_reducible assumption | exact ⟨by with_reducible assumption, by with_reducible assumption⟩ | first | lia | grind [zu_at, zu_atL, zvn]) (by first | with_reducible assumption | exact ⟨by with_reducible assumption, by with_reducible assumption⟩ | first | lia | grind [zu_at, zu_atL, zvn]) (by first | with_reducible assumption | exact ⟨by with_reducible assumption, by with_reducible assumption⟩ | first | lia | grind [zu_at, zu_atL, zvn])) (fun o_19 ho_19 => ?_)
  exact hback_5 _ (by (try dsimp only); (repeat' apply And.intro) <;> first | with_reducible assumption | first | lia | grind [zu_at, zu_atL, zvn]) (by (try dsimp only); first | lia | grind [zu_at, zu_atL, zvn]) (by (try dsimp only); first | lia | grind [zu_at, zu_atL, zvn])
