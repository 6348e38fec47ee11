set_option maxHeartbeats 4000000 in
set_option maxRecDepth 100000 in
theorem sf_X12_beginsChoice (f1 : Nat → Int32) (f2 : Nat → Int32) (f3 : Nat → Int32) (f4 : Nat → Int32) (h_f1 : (∀ i : Nat, 0 ≤ f1 i ∧ f1 i ≤ 14)) (h_f2 : (∀ i : Nat, 0 ≤ f2 i ∧ f2 i ≤ 3)) (h_f3 : (∀ i : Nat, (-1) ≤ f3 i ∧ f3 i ≤ 3)) (h_f4 : (∀ i : Nat, 0 ≤ f4 i ∧ f4 i ≤ 13)) : zw (fn_X12_beginsChoice f1 f2 f3 f4) (fun r => 0 ≤ r.1 ∧ r.1 ≤ 1 ∧ (∀ i : Nat, 0 ≤ r.2 i ∧ r.2 i ≤ 3) ∧ r.1 ≤ (f1 (0 : Int32).toNatClampNeg) + 1 ∧ (∀ i : Nat, r.2 i = f2 i ∨ r.2 i = 0 ∨ ∃ k : Int32, 0 ≤ k ∧ k < f1 (0 : Int32).toNatClampNeg ∧ ¬ f3 k.toNatClampNeg = (-1) ∧ r.2 i = f3 k.toNatClampNeg)) := by
  unfold fn_X12_beginsChoice
  refine zw_zl32 (fun s_1 => (∀ i : Nat, s_1.2 i = f2 i ∨ s_1.2 i = 0 ∨ ∃ k : Int32, 0 ≤ k ∧ k < f1 (0 : Int32).toNatClampNeg ∧ ¬ f3 k.toNatClampNeg = (-1) ∧ s_1.2 i = f3 k.toNatClampNeg) ∧ (∀ i : Nat, 0 ≤ s_1.2 i ∧ s_1.2 i ≤ 3) ∧ 0 ≤ s_1.1 ∧ s_1.1 ≤ 14) (fun s_1 => 14 - s_1.1) (by (try dsimp only); (repeat' apply And.intro) <;> first | with_reducible assumption | first | lia | grind [zu_at, zu_atL, zvn]) (by (try dsimp only); first | lia | grind [zu_at, zu_atL, zvn]) (fun s_1 back_1 Hback_1 hback_1 => ?_)
  obtain ⟨s_1_0, s_1_1⟩ := s_1
  try dsimp only at Hback_1 hback_1
  obtain ⟨Hback_1_0, Hback_1_1, Hback_1_2, Hback_1_3⟩ := Hback_1
  refine zw_if (fun c1 => ?_) (fun c1 => ?_)
  · refine zw_zl32 (fun s_3 => (∀ i : Nat, s_3.2.2 i = f2 i ∨ s_3.2.2 i = 0 ∨ ∃ k : Int32, 0 ≤ k ∧ k < f1 (0 : Int32).toNatClampNeg ∧ ¬ f3 k.toNatClampNeg = (-1) ∧ s_3.2.2 i = f3 k.toNatClampNeg) ∧ (∀ i : Nat, 0 ≤ s_3.2.2 i ∧ s_3.2.2 i ≤ 3) ∧ 0 ≤ s_3.1 ∧ s_3.1 ≤ 14 ∧ 0 ≤ s_3.2.1 ∧ s_3.2.1 ≤ 1 ∧ s_3.1 ≤ s_1_0 ∧ s_3.1 ≤ (f1 (0 : Int32).toNatClampNeg)) (fun s_3 => 14 - s_3.1) (by (try dsimp only); (repeat' apply And.intro) <;> first | with_reducible assumption | first | lia | grind [zu_at, zu_atL, zvn]) (by (try dsimp only); first | lia | grind [zu_at, zu_atL, zvn]) (fun s_3 back_3 Hback_3 hback_3 => ?_)
    obtain ⟨s_3_0, s_3_1, s_3_2⟩ := s_3
    try dsimp only at Hback_3 hback_3
    obtain ⟨Hback_3_0, Hback_3_1, Hback_3_2, Hback_3_3, Hback_3_4, Hback_3_5, Hback_3_6, Hback_3_7⟩ := Hback_3
    refine zw_if (fun c2 => ?_) (fun c2 => ?_)
    · refine zw_some ?_
      first | exact True.intro | ((try dsimp only); (repeat' apply And.intro) <;> first | with_reducible assumption | first | lia | grind [zu_at, zu_atL, zvn])
    refine zw_zg32 28 (by decide) (by (try dsimp only); first | lia | grind [zu_at, zu_atL, zvn]) ?_
    refine zw_if (fun c3 => ?_) (fun c3 => ?_)
    · exact hback_3 _ (by (try dsimp only); (repeat' apply And.intro) <;> first | with_reducible assumption | first | lia | grind [zu_at, zu_atL, zvn]) (by (try dsimp only); first | lia | grind [zu_at, zu_atL, zvn]) (by (try dsimp only); first | lia | grind [zu_at, zu_atL, zvn])
    refine zw_zl32 (fun s_7 => (∀ i : Nat, s_7.2.2 i = f2 i ∨ s_7.2.2 i = 0 ∨ ∃ k : Int32, 0 ≤ k ∧ k < f1 (0 : Int32).toNatClampNeg ∧ ¬ f3 k.toNatClampNeg = (-1) ∧ s_7.2.2 i = f3 k.toNatClampNeg) ∧ (∀ i : Nat, 0 ≤ s_7.2.2 i ∧ s_7.2.2 i ≤ 3) ∧ 0 ≤ s_7.1 ∧ s_7.1 ≤ 14 ∧ 0 ≤ s_7.2.1 ∧ s_7.2.1 ≤ 1 ∧ s_7.1 ≤ s_1_0 ∧ s_7.2.1 ≤ s_3_1 ∧ s_7.1 ≤ (f1 (0 : Int32).toNatClampNeg)) (fun s_7 => 14 - s_7.1) (by (try dsimp only); (repeat' apply And.intro) <;> first | with_reducible assumption | first | lia | grind [zu_at, zu_atL, zvn]) (by (try dsimp only); first | lia | grind [zu_at, zu_atL, zvn]) (fun s_7 back_7 Hback_7 hback_7 => ?_)
    obtain ⟨s_7_0, s_7_1, s_7_2⟩ := s_7
    try dsimp only at Hback_7 hback_7
    obtain ⟨Hback_7_0, Hback_7_1, Hback_7_2, Hback_7_3, Hback_7_4, Hback_7_5, Hback_7_6, Hback_7_7, Hback_7_8⟩ := Hback_7
    refine zw_if (fun c4 => ?_) (fun c4 => ?_)
    · exact hback_3 _ (by (try dsimp only); (repeat' apply And.intro) <;> first | with_reducible assumption | first | lia | grind [zu_at, zu_atL, zvn]) (by (try dsimp only); first | lia | grind [zu_at, zu_atL, zvn]) (by (try dsimp only); first | lia | grind [zu_at, zu_atL, zvn])
    refine zw_zg32 28 (by decide) (by (try dsimp only); first | lia | grind [zu_at, zu_atL, zvn]) ?_
    refine zw_zg32 28 (by decide) (by (try dsimp only); first | lia | grind [zu_at, zu_atL, zvn]) ?_
    refine zw_if (fun c5 => ?_) (fun c5 => ?_)
    · refine zw_zg32 14 (by decide) (by (try dsimp only); first | lia | grind [zu_at, zu_atL, zvn]) ?_
      refine zw_if (fun c6 => ?_) (fun c6 => ?_)
      · exact hback_7 _ (by (try dsimp only); (repeat' apply And.intro) <;> first | with_reducible assumption | first | lia | grind [zu_at, zu_atL, zvn]) (by (try dsimp only); first | lia | grind [zu_at, zu_atL, zvn]) (by (try dsimp only); first | lia | grind [zu_at, zu_atL, zvn])
      refine zw_if (fun c7 => ?_) (fun c7 => ?_)
      · exact hback_7 _ (by (try dsimp only); (repeat' apply And.intro) <;> first | with_reducible assumption | first | lia | grind [zu_at, zu_atL, zvn]) (by (try dsimp only); first | lia | grind [zu_at, zu_atL, zvn]) (by (try dsimp only); first | lia | grind [zu_at, zu_atL, zvn])
      refine zw_if (fun c8 => ?_) (fun c8 => ?_)
      · exact hback_7 _ (by (try dsimp only); (repeat' apply And.intro) <;> first | with_reducible assumption | first | lia | grind [zu_at, zu_atL, zvn]) (by (try dsimp only); first | lia | grind [zu_at, zu_atL, zvn]) (by (try dsimp only); first | lia | grind [zu_at, zu_atL, zvn])
      exact hback_7 _ (by (try dsimp only); (repeat' apply And.intro) <;> first | with_reducible assumption | first | lia | grind [zu_at, zu_atL, zvn]) (by (try dsimp only); first | lia | grind [zu_at, zu_atL, zvn]) (by (try dsimp only); first | lia | grind [zu_at, zu_atL, zvn])
    exact hback_7 _ (by (try dsimp only); (repeat' apply And.intro) <;> first | with_reducible assumption | first | lia | grind [zu_at, zu_atL, zvn]) (by (try dsimp only); first | lia | grind [zu_at, zu_atL, zvn]) (by (try dsimp only); first | lia | grind [zu_at, zu_atL, zvn])
  refine zw_zg32 14 (by decide) (by (try dsimp only); first | lia | grind [zu_at, zu_atL, zvn]) ?_
  exact hback_1 _ (by (try dsimp only); (repeat' apply And.intro) <;> first | with_reducible assumption | first | lia | grind [zu_at, zu_atL, zvn]) (by (try dsimp only); first | lia | grind [zu_at, zu_atL, zvn]) (by (try dsimp only); first | lia | grind [zu_at, zu_atL, zvn])
