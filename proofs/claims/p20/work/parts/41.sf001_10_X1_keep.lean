set_option maxHeartbeats 4000000 in
set_option maxRecDepth 100000 in
theorem sf_X1_keep (p2 : Int32) (p3 : Int32) (v0_3 : Int32) (v0_6 : Int32) (v0_7 : Int32) (v0_8 : Int32) (n1 : Nat) (f1 : Nat → Int32) (v3_0 : Int32) (f4 : Nat → Int32) (n5 : Nat) (f5 : Nat → Int32) (f7 : Nat → Int64) (h_v0_3 : 0 ≤ v0_3 ∧ v0_3 ≤ 14) (h_v0_6 : 0 ≤ v0_6 ∧ v0_6 ≤ 1024) (h_n1 : n1 ≤ 1024) (hN_n1 : 0 ≤ Int32.ofNat n1 ∧ Int32.ofNat n1 ≤ 1024) (h_v3_0 : 0 ≤ v3_0 ∧ v3_0 ≤ 14) (h_n5 : n5 ≤ 14336) (hN_n5 : 0 ≤ Int32.ofNat n5 ∧ Int32.ofNat n5 ≤ 14336) (hr_0 : v0_6 ≤ (Int32.ofNat n1)) : zw (fn_X1_keep p2 p3 v0_3 v0_6 v0_7 v0_8 n1 f1 v3_0 f4 n5 f5 f7) (fun r => 0 ≤ r.1 ∧ r.1 ≤ 1024 ∧ r.1 ≤ (Int32.ofNat n1)) := by
  unfold fn_X1_keep
  refine zw_if (fun c1 => ?_) (fun c1 => ?_)
  · refine zw_zgN (by (try dsimp only); first | lia | grind [zu_at, zu_atL, zvn]) (by (try dsimp only); first | lia | grind [zu_at, zu_atL, zvn]) ?_
    obtain ⟨hm1, hm2⟩ := zmul14 v0_6 v0_3 (by lia) (by lia) (by lia) (by lia)
    refine zw_zl32 (fun s_3 => 0 ≤ s_3.1 ∧ s_3.1 ≤ 14336 ∧ 0 ≤ s_3.2.1 ∧ s_3.2.1 ≤ 14 ∧ s_3.2.1 ≤ v3_0 ∧ (v0_6 * v0_3) ≤ s_3.1) (fun s_3 => 14 - s_3.2.1) (by (try dsimp only); (repeat' apply And.intro) <;> first | with_reducible assumption | first | lia | grind [zu_at, zu_atL, zvn]) (by (try dsimp only); first | lia | grind [zu_at, zu_atL, zvn]) (fun s_3 back_3 Hback_3 hback_3 => ?_)
    obtain ⟨s_3_0, s_3_1, s_3_2⟩ := s_3
    try dsimp only at Hback_3 hback_3
    obtain ⟨Hback_3_0, Hback_3_1, Hback_3_2, Hback_3_3, Hback_3_4, Hback_3_5⟩ := Hback_3
    refine zw_if (fun c2 => ?_) (fun c2 => ?_)
    · refine zw_zj (fun _ => True) (fun s_5 Hj_5 => ?_) (fun j_5 hj_5 => ?_)
      · refine zw_some ?_
        first | exact True.intro | ((try dsimp only); (repeat' apply And.intro) <;> first | with_reducible assumption | first | lia | grind [zu_at, zu_atL, zvn])
      refine zw_if (fun c3 => ?_) (fun c3 => ?_)
      · exact hj_5 _ (by first | exact True.intro | ((try dsimp only); (repeat' apply And.intro) <;> first | with_reducible assumption | first | lia | grind [zu_at, zu_atL, zvn]))
      refine zw_if (fun c4 => ?_) (fun c4 => ?_)
      · refine zw_some ?_
        first | exact True.intro | ((try dsimp only); (repeat' apply And.intro) <;> first | with_reducible assumption | first | lia | grind [zu_at, zu_atL, zvn])
      exact hj_5 _ (by first | exact True.intro | ((try dsimp only); (repeat' apply And.intro) <;> first | with_reducible assumption | first | lia | grind [zu_at, zu_atL, zvn]))
    refine zw_zb0 (sf_X9_isAnswer s_3_1 v3_0 f4 (by first | with_reducible assumption | exact ⟨by with_reducible assumption, by with_reducible assumption⟩ | first | lia | grind [zu_at, zu_atL, zvn])) (fun o_8 ho_8 => ?_)
    obtain ⟨ho_8_0, ho_8_1, ho_8_2, ho_8_3, ho_8_4, ho_8_5⟩ := ho_8
    refine zw_if (fun c5 => ?_) (fun c5 => ?_)
    · exact hback_3 _ (by (try dsimp only); (repeat' apply And.intro) <;> first | with_reducible assumption | first | lia | grind [zu_at, zu_atL, zvn]) (by (try dsimp only); first | lia | grind [zu_at, zu_atL, zvn]) (by (try dsimp only); first | lia | grind [zu_at, zu_atL, zvn])
    refine zw_if (fun c6 => ?_) (fun c6 => ?_)
    · exact hback_3 _ (by (try dsimp only); (repeat' apply And.intro) <;> first | with_reducible assumption | first | lia | grind [zu_at, zu_atL, zvn]) (by (try dsimp only); first | lia | grind [zu_at, zu_atL, zvn]) (by (try dsimp only); first | lia | grind [zu_at, zu_atL, zvn])
    refine zw_zg32 14 (by decide) (by (try dsimp only); first | lia | grind [zu_at, zu_atL, zvn]) ?_
    refine zw_zgN (by (try dsimp only); first | lia | grind [zu_at, zu_atL, zvn]) (by (try dsimp only); first | lia | grind [zu_at, zu_atL, zvn]) ?_
    refine zw_zn1 ?_
    exact hback_3 _ (by (try dsimp only); (repeat' apply And.intro) <;> first | with_reducible assumption | first | lia | grind [zu_at, zu_atL, zvn]) (by (try dsimp only); first | lia | grind [zu_at, zu_atL, zvn]) (by (try dsimp only); first | lia | grind [zu_at, zu_atL, zvn])
  refine zw_some ?_
  first | exact True.intro | ((try dsimp only); (repeat' apply And.intro) <;> first | with_reducible assumption | first | lia | grind [zu_at, zu_atL, zvn])
