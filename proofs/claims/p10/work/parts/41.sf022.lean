set_option maxHeartbeats 4000000 in
set_option maxRecDepth 100000 in
theorem sf_X12_uses (p1 : Int32) (f1 : Nat → Int32) (f2 : Nat → Int32) (f3 : Nat → Int32) (h_f1 : (∀ i : Nat, 0 ≤ f1 i ∧ f1 i ≤ 14)) (h_f2 : (∀ i : Nat, (-1) ≤ f2 i ∧ f2 i ≤ 13)) (h_f3 : (∀ i : Nat, (-1) ≤ f3 i ∧ f3 i ≤ 13)) : zw (fn_X12_uses p1 f1 f2 f3) (fun r => True) := by
  unfold fn_X12_uses
  refine zw_zb0 (sf_X12_isNumber p1 f1 (by first | with_reducible assumption | exact ⟨by with_reducible assumption, by with_reducible assumption⟩ | first | lia | grind [zu_at, zu_atL, zvn])) (fun o_1 ho_1 => ?_)
  obtain ⟨ho_1_0, ho_1_1, ho_1_2, ho_1_3, ho_1_4, ho_1_5⟩ := ho_1
  refine zw_if (fun c1 => ?_) (fun c1 => ?_)
  · refine zw_some ?_
    first | exact True.intro | ((try dsimp only); (repeat' apply And.intro) <;> first | with_reducible assumption | first | lia | grind [zu_at, zu_atL, zvn])
  refine zw_zl32 (fun s_6 => 1 ≤ s_6.2 ∧ s_6.2 ≤ 14 ∧ p1 < s_6.2 ∧ s_6.2 ≤ (f1 (0 : Int32).toNatClampNeg)) (fun s_6 => 14 - s_6.2) (by (try dsimp only); (repeat' apply And.intro) <;> first | with_reducible assumption | first | lia | grind [zu_at, zu_atL, zvn]) (by (try dsimp only); first | lia | grind [zu_at, zu_atL, zvn]) (fun s_6 back_6 Hback_6 hback_6 => ?_)
  obtain ⟨s_6_0, s_6_1⟩ := s_6
  try dsimp only at Hback_6 hback_6
  obtain ⟨Hback_6_0, Hback_6_1, Hback_6_2, Hback_6_3⟩ := Hback_6
  refine zw_if (fun c2 => ?_) (fun c2 => ?_)
  · refine zw_some ?_
    first | exact True.intro | ((try dsimp only); (repeat' apply And.intro) <;> first | with_reducible assumption | ((try clear hback_6); first | lia | grind [zu_at, zu_atL, zvn]))
  refine zw_zg32 28 (by decide) (by (try dsimp only); ((try clear hback_6); first | lia | grind [zu_at, zu_atL, zvn])) ?_
  refine zw_zj (fun s_9 => 0 ≤ s_9 ∧ s_9 ≤ 1 ∧ (f2 s_6_1.toNatClampNeg) ≤ 13 ∧ (-1) ≤ (f2 s_6_1.toNatClampNeg)) (fun s_9 Hj_9 => ?_) (fun j_9 hj_9 => ?_)
  · obtain ⟨Hj_9_0, Hj_9_1, Hj_9_2, Hj_9_3⟩ := Hj_9
    refine zw_if (fun c3 => ?_) (fun c3 => ?_)
    · exact hback_6 _ (by (try dsimp only); (repeat' apply And.intro) <;> first | with_reducible assumption | ((try clear hback_6); (try clear hj_9); first | lia | grind [zu_at, zu_atL, zvn])) (by (try dsimp only); ((try clear hback_6); (try clear hj_9); first | lia | grind [zu_at, zu_atL, zvn])) (by (try dsimp only); ((try clear hback_6); (try clear hj_9); first | lia | grind [zu_at, zu_atL, zvn]))
    exact hback_6 _ (by (try dsimp only); (repeat' apply And.intro) <;> first | with_reducible assumption | ((try clear hback_6); (try clear hj_9); first | lia | grind [zu_at, zu_atL, zvn])) (by (try dsimp only); ((try clear hback_6); (try clear hj_9); first | lia | grind [zu_at, zu_atL, zvn])) (by (try dsimp only); ((try clear hback_6); (try clear hj_9); first | lia | grind [zu_at, zu_atL, zvn]))
  refine zw_zj (fun _ => (f2 s_6_1.toNatClampNeg) ≤ 13 ∧ (-1) ≤ (f2 s_6_1.toNatClampNeg)) (fun s_11 Hj_11 => ?_) (fun j_11 hj_11 => ?_)
  · obtain ⟨Hj_11_0, Hj_11_1⟩ := Hj_11
    refine zw_zg32 28 (by decide) (by (try dsimp only); ((try clear hback_6); (try clear hj_9); (try clear hj_11); first | lia | grind [zu_at, zu_atL, zvn])) ?_
    refine zw_zj (fun _ => (f3 s_6_1.toNatClampNeg) ≤ 13 ∧ (-1) ≤ (f3 s_6_1.toNatClampNeg)) (fun s_13 Hj_13 => ?_) (fun j_13 hj_13 => ?_)
    · obtain ⟨Hj_13_0, Hj_13_1⟩ := Hj_13
      exact hj_9 _ (by first | exact True.intro | ((try dsimp only); (repeat' apply And.intro) <;> first | with_reducible assumption | ((try clear hback_6); (try clear hj_9); (try clear hj_11); (try clear hj_13); first | lia | grind [zu_at, zu_atL, zvn])))
    refine zw_if (fun c4 => ?_) (fun c4 => ?_)
    · exact hj_13 _ (by first | exact True.intro | ((try dsimp only); (repeat' apply And.intro) <;> first | with_reducible assumption | ((try clear hback_6); (try clear hj_9); (try clear hj_11); (try clear hj_13); first | lia | grind [zu_at, zu_atL, zvn])))
    refine zw_if (fun c5 => ?_) (fun c5 => ?_)
    · exact hj_9 _ (by first | exact True.intro | ((try dsimp only); (repeat' apply And.intro) <;> first | with_reducible assumption | ((try clear hback_6); (try clear hj_9); (try clear hj_11); (try clear hj_13); first | lia | grind [zu_at, zu_atL, zvn])))
    exact hj_13 _ (by first | exact True.intro | ((try dsimp only); (repeat' apply And.intro) <;> first | with_reducible assumption | ((try clear hback_6); (try clear hj_9); (try clear hj_11); (try clear hj_13); first | lia | grind [zu_at, zu_atL, zvn])))
  refine zw_if (fun c6 => ?_) (fun c6 => ?_)
  · exact hj_11 _ (by first | exact True.intro | ((try dsimp only); (repeat' apply And.intro) <;> first | with_reducible assumption | ((try clear hback_6); (try clear hj_9); (try clear hj_11); (try clear hj_13); first | lia | grind [zu_at, zu_atL, zvn])))
  refine zw_if (fun c7 => ?_) (fun c7 => ?_)
  · exact hj_9 _ (by first | exact True.intro | ((try dsimp only); (repeat' apply And.intro) <;> first | with_reducible assumption | ((try clear hback_6); (try clear hj_9); (try clear hj_11); (try clear hj_13); first | lia | grind [zu_at, zu_atL, zvn])))
  exact hj_11 _ (by first | exact True.intro | ((try dsimp only); (repeat' apply And.intro) <;> first | with_reducible assumption | ((try clear hback_6); (try clear hj_9); (try clear hj_11); (try clear hj_13); first | lia | grind [zu_at, zu_atL, zvn])))
set_option maxHeartbeats 4000000 in
set_option maxRecDepth 100000 in
theorem sf_X12_deepOf (p1 : Int32) (f1 : Nat → Int32) (h_p1 : (-1) ≤ p1 ∧ p1 ≤ 13) : zw (fn_X12_deepOf p1 f1) (fun r => (¬ r = 0 → 0 ≤ p1 ∧ (f1 p1.toNatClampNeg) ≤ r ∧ r ≤ (f1 p1.toNatClampNeg))) := by
  unfold fn_X12_deepOf
  refine zw_if (fun c1 => ?_) (fun c1 => ?_)
  · refine zw_some ?_
    first | exact True.intro | ((try dsimp only); (repeat' apply And.intro) <;> first | with_reducible assumption | first | lia | grind [zu_at, zu_atL, zvn])
  refine zw_zg32 14 (by decide) (by (try dsimp only); first | lia | grind [zu_at, zu_atL, zvn]) ?_
  refine zw_some ?_
  first | exact True.intro | ((try dsimp only); (repeat' apply And.intro) <;> first | with_reducible assumption | first | lia | grind [zu_at, zu_atL, zvn])
set_option maxHeartbeats 4000000 in
set_option maxRecDepth 100000 in
theorem sf_X12_depth (p1 : Int32) (f1 : Nat → Int32) (f2 : Nat → Int32) (f3 : Nat → Int32) (f4 : Nat → Int32) (f5 : Nat → Int32) (h_f1 : (∀ i : Nat, 0 ≤ f1 i ∧ f1 i ≤ 14)) (h_f2 : (∀ i : Nat, (-1) ≤ f2 i ∧ f2 i ≤ 13)) (h_f4 : (∀ i : Nat, (-1) ≤ f4 i ∧ f4 i ≤ 13)) : zw (fn_X12_depth p1 f1 f2 f3 f4 f5) (fun r => True) := by
  unfold fn_X12_depth
  refine zw_zb0 (sf_X12_isNumber p1 f1 (by first | with_reducible assumption | exact ⟨by with_reducible assumption, by with_reducible assumption⟩ | first | lia | grind [zu_at, zu_atL, zvn])) (fun o_1 ho_1 => ?_)
  obtain ⟨ho_1_0, ho_1_1, ho_1_2, ho_1_3, ho_1_4, ho_1_5⟩ := ho_1
  refine zw_if (fun c1 => ?_) (fun c1 => ?_)
  · refine zw_some ?_
    first | exact True.intro | ((try dsimp only); (repeat' apply And.intro) <;> first | with_reducible assumption | first | lia | grind [zu_at, zu_atL, zvn])
  refine zw_zl32 (fun s_6 => 0 ≤ s_6.1 ∧ s_6.1 ≤ 14 ∧ s_6.1 ≤ p1 + 1) (fun s_6 => 14 - s_6.1) (by (try dsimp only); (repeat' apply And.intro) <;> first | with_reducible assumption | first | lia | grind [zu_at, zu_atL, zvn]) (by (try dsimp only); first | lia | grind [zu_at, zu_atL, zvn]) (fun s_6 back_6 Hback_6 hback_6 => ?_)
  obtain ⟨s_6_0, s_6_1⟩ := s_6
  try dsimp only at Hback_6 hback_6
  obtain ⟨Hback_6_0, Hback_6_1, Hback_6_2⟩ := Hback_6
  refine zw_if (fun c2 => ?_) (fun c2 => ?_)
  · refine zw_zg32 14 (by decide) (by (try dsimp only); ((try clear hback_6); first | lia | grind [zu_at, zu_atL, zvn])) ?_
    refine zw_some ?_
    first | exact True.intro | ((try dsimp only); (repeat' apply And.intro) <;> first | with_reducible assumption | ((try clear hback_6); first | lia | grind [zu_at, zu_atL, zvn]))
  refine zw_zg32 28 (by decide) (by (try dsimp only); ((try clear hback_6); first | lia | grind [zu_at, zu_atL, zvn])) ?_
  refine zw_zb0 (sf_X12_deepOf (f2 s_6_0.toNatClampNeg) s_6_1 (by first | with_reducible assumption | exact ⟨by with_reducible assumption, by with_reducible assumption⟩ | ((try clear hback_6); first | lia | grind [zu_at, zu_atL, zvn]))) (fun o_10 ho_10 => ?_)
  refine zw_zb0 (sf_X12_deepOf (f4 s_6_0.toNatClampNeg) s_6_1 (by first | with_reducible assumption | exact ⟨by with_reducible assumption, by with_reducible assumption⟩ | ((try clear hback_6); first | lia | grind [zu_at, zu_atL, zvn]))) (fun o_14 ho_14 => ?_)
  refine zw_if (fun c3 => ?_) (fun c3 => ?_)
  · refine zw_zg32 14 (by decide) (by (try dsimp only); ((try clear hback_6); first | lia | grind [zu_at, zu_atL, zvn])) ?_
    exact hback_6 _ (by (try dsimp only); (repeat' apply And.intro) <;> first | with_reducible assumption | ((try clear hback_6); first | lia | grind [zu_at, zu_atL, zvn])) (by (try dsimp only); ((try clear hback_6); first | lia | grind [zu_at, zu_atL, zvn])) (by (try dsimp only); ((try clear hback_6); first | lia | grind [zu_at, zu_atL, zvn]))
  refine zw_if (fun c4 => ?_) (fun c4 => ?_)
  · refine zw_zg32 14 (by decide) (by (try dsimp only); ((try clear hback_6); first | lia | grind [zu_at, zu_atL, zvn])) ?_
    exact hback_6 _ (by (try dsimp only); (repeat' apply And.intro) <;> first | with_reducible assumption | ((try clear hback_6); first | lia | grind [zu_at, zu_atL, zvn])) (by (try dsimp only); ((try clear hback_6); first | lia | grind [zu_at, zu_atL, zvn])) (by (try dsimp only); ((try clear hback_6); first | lia | grind [zu_at, zu_atL, zvn]))
  refine zw_zg32 14 (by decide) (by (try dsimp only); ((try clear hback_6); first | lia | grind [zu_at, zu_atL, zvn])) ?_
  exact hback_6 _ (by (try dsimp only); (repeat' apply And.intro) <;> first | with_reducible assumption | ((try clear hback_6); first | lia | grind [zu_at, zu_atL, zvn])) (by (try dsimp only); ((try clear hback_6); first | lia | grind [zu_at, zu_atL, zvn])) (by (try dsimp only); ((try clear hback_6); first | lia | grind [zu_at, zu_atL, zvn]))
set_option maxHeartbeats 4000000 in
set_option maxRecDepth 100000 in
theorem sf_X12_triesHand (f1 : Nat → Int32) (f2 : Nat → Int32) (f3 : Nat → Int32) (h_f1 : (∀ i : Nat, 0 ≤ f1 i ∧ f1 i ≤ 14)) (h_f2 : (∀ i : Nat, 0 ≤ f2 i ∧ f2 i ≤ 3)) (h_f3 : (∀ i : Nat, 0 ≤ f3 i ∧ f3 i ≤ 3)) : zw (fn_X12_triesHand f1 f2 f3) (fun r => (∀ i : Nat, 0 ≤ r i ∧ r i ≤ 3) ∧ (∀ i : Nat, r i = f2 i ∨ r i = f3 i)) := by
  unfold fn_X12_triesHand
  refine zw_zl32 (fun s_1 => (∀ i : Nat, 0 ≤ s_1.2 i ∧ s_1.2 i ≤ 3) ∧ 0 ≤ s_1.1 ∧ s_1.1 ≤ 14 ∧ (∀ i : Nat, s_1.2 i = f2 i ∨ s_1.2 i = f3 i)) (fun s_1 => 14 - s_1.1) (by (try dsimp only); (repeat' apply And.intro) <;> first | with_reducible assumption | first | lia | grind [zu_at, zu_atL, zvn]) (by (try dsimp only); first | lia | grind [zu_at, zu_atL, zvn]) (fun s_1 back_1 Hback_1 hback_1 => ?_)
  obtain ⟨s_1_0, s_1_1⟩ := s_1
  try dsimp only at Hback_1 hback_1
  obtain ⟨Hback_1_0, Hback_1_1, Hback_1_2, Hback_1_3⟩ := Hback_1
  refine zw_if (fun c1 => ?_) (fun c1 => ?_)
  · refine zw_some ?_
    first | exact True.intro | ((try dsimp only); (repeat' apply And.intro) <;> first | with_reducible assumption | ((try clear hback_1); first | lia | grind [zu_at, zu_atL, zvn]))
  refine zw_zg32 14 (by decide) (by (try dsimp only); ((try clear hback_1); first | lia | grind [zu_at, zu_atL, zvn])) ?_
  exact hback_1 _ (by (try dsimp only); (repeat' apply And.intro) <;> first | with_reducible assumption | ((try clear hback_1); first | lia | grind [zu_at, zu_atL, zvn])) (by (try dsimp only); ((try clear hback_1); first | lia | grind [zu_at, zu_atL, zvn])) (by (try dsimp only); ((try clear hback_1); first | lia | grind [zu_at, zu_atL, zvn]))
set_option maxHeartbeats 4000000 in
set_option maxRecDepth 100000 in
theorem sf_X12_triesGroup (p1 : Int32) (p2 : Int32) (f1 : Nat → Int32) (f2 : Nat → Int32) (f3 : Nat → Int32) (h_p2 : 0 ≤ p2 ∧ p2 ≤ 3) (h_f1 : (∀ i : Nat, 0 ≤ f1 i ∧ f1 i ≤ 14)) (h_f2 : (∀ i : Nat, 0 ≤ f2 i ∧ f2 i ≤ 13)) (h_f3 : (∀ i : Nat, 0 ≤ f3 i ∧ f3 i ≤ 3)) : zw (fn_X12_triesGroup p1 p2 f1 f2 f3) (fun r => (∀ i : Nat, 0 ≤ r i ∧ r i ≤ 3) ∧ (∀ i : Nat, r i = f3 i ∨ r i = p2)) := by
  unfold fn_X12_triesGroup
  refine zw_zl32 (fun s_1 => (∀ i : Nat, 0 ≤ s_1.2 i ∧ s_1.2 i ≤ 3) ∧ 0 ≤ s_1.1 ∧ s_1.1 ≤ 14 ∧ (∀ i : Nat, s_1.2 i = f3 i ∨ s_1.2 i = p2)) (fun s_1 => 14 - s_1.1) (by (try dsimp only); (repeat' apply And.intro) <;> first | with_reducible assumption | first | lia | grind [zu_at, zu_atL, zvn]) (by (try dsimp only); first | lia | grind [zu_at, zu_atL, zvn]) (fun s_1 back_1 Hback_1 hback_1 => ?_)
  obtain ⟨s_1_0, s_1_1⟩ := s_1
  try dsimp only at Hback_1 hback_1
  obtain ⟨Hback_1_0, Hback_1_1, Hback_1_2, Hback_1_3⟩ := Hback_1
  refine zw_if (fun c1 => ?_) (fun c1 => ?_)
  · refine zw_some ?_
    first | exact True.intro | ((try dsimp only); (repeat' apply And.intro) <;> first | with_reducible assumption | ((try clear hback_1); first | lia | grind [zu_at, zu_atL, zvn]))
  refine zw_zg32 28 (by decide) (by (try dsimp only); ((try clear hback_1); first | lia | grind [zu_at, zu_atL, zvn])) ?_
  refine zw_if (fun c2 => ?_) (fun c2 => ?_)
  · refine zw_zg32 14 (by decide) (by (try dsimp only); ((try clear hback_1); first | lia | grind [zu_at, zu_atL, zvn])) ?_
    exact hback_1 _ (by (try dsimp only); (repeat' apply And.intro) <;> first | with_reducible assumption | ((try clear hback_1); first | lia | grind [zu_at, zu_atL, zvn])) (by (try dsimp only); ((try clear hback_1); first | lia | grind [zu_at, zu_atL, zvn])) (by (try dsimp only); ((try clear hback_1); first | lia | grind [zu_at, zu_atL, zvn]))
  refine zw_zg32 14 (by decide) (by (try dsimp only); ((try clear hback_1); first | lia | grind [zu_at, zu_atL, zvn])) ?_
  exact hback_1 _ (by (try dsimp only); (repeat' apply And.intro) <;> first | with_reducible assumption | ((try clear hback_1); first | lia | grind [zu_at, zu_atL, zvn])) (by (try dsimp only); ((try clear hback_1); first | lia | grind [zu_at, zu_atL, zvn])) (by (try dsimp only); ((try clear hback_1); first | lia | grind [zu_at, zu_atL, zvn]))
set_option maxHeartbeats 4000000 in
set_option maxRecDepth 100000 in
theorem sf_X12_castError (p1 : Int32) (p2 : Int32) (f1 : Nat → Int32) (f2 : Nat → Int32) (f3 : Nat → Int32) (f4 : Nat → Int32) (f5 : Nat → Int64) (f6 : Nat → Int64) (f7 : Nat → Int64) (h_p1 : 0 ≤ p1 ∧ p1 ≤ 13) (h_p2 : 0 ≤ p2 ∧ p2 ≤ 1) (h_f1 : (∀ i : Nat, 0 ≤ f1 i ∧ f1 i ≤ 3)) (h_f3 : (∀ i : Nat, (-1) ≤ f3 i ∧ f3 i ≤ 13)) (h_f4 : (∀ i : Nat, (-1) ≤ f4 i ∧ f4 i ≤ 13)) (hx_0 : (∀ i : Nat, 1 ≤ f2 (f1 i).toNatClampNeg)) : zw (fn_X12_castError p1 p2 f1 f2 f3 f4 f5 f6 f7) (fun r => True) := by
  unfold fn_X12_castError
  refine zw_zg32 14 (by decide) (by (try dsimp only); first | lia | grind [zu_at, zu_atL, zvn, z64_r]) ?_
  refine zw_zg32 8 (by decide) (by (try dsimp only); first | lia | grind [zu_at, zu_atL, zvn, z64_r]) ?_
  refine zw_zj (fun s_3 => (-1) ≤ s_3 ∧ s_3 ≤ 13) (fun s_3 Hj_3 => ?_) (fun j_3 hj_3 => ?_)
  · obtain ⟨Hj_3_0, Hj_3_1⟩ := Hj_3
    refine zw_if (fun c1 => ?_) (fun c1 => ?_)
    · refine zw_zj (fun s_11 => True) (fun s_11 Hj_11 => ?_) (fun j_11 hj_11 => ?_)
      · refine zw_zd (by (try dsimp only); first | lia | grind [zu_at, zu_atL, zvn, z64_r]) ?_
        refine zw_zn (fun x_13 ex_13 => ?_)
        refine zw_ifc (lg_cmp_eq _ _) (fun c2 => ?_) (fun c2 => ?_)
        · refine zw_some ?_
          first | exact True.intro | ((try dsimp only); (repeat' apply And.intro) <;> first | with_reducible assumption | first | lia | grind [zu_at, zu_atL, zvn, z64_r])
        refine zw_some ?_
        first | exact True.intro | ((try dsimp only); (repeat' apply And.intro) <;> first | with_reducible assumption | first | lia | grind [zu_at, zu_atL, zvn, z64_r])
      refine zw_if (fun c3 => ?_) (fun c3 => ?_)
      · refine zw_zg32 28 (by decide) (by (try dsimp only); first | lia | grind [zu_at, zu_atL, zvn, z64_r]) ?_
        exact hj_11 _ (by first | exact True.intro | ((try dsimp only); (repeat' apply And.intro) <;> first | with_reducible assumption | first | lia | grind [zu_at, zu_atL, zvn, z64_r]))
      refine zw_zg32 28 (by decide) (by (try dsimp only); first | lia | grind [zu_at, zu_atL, zvn, z64_r]) ?_
      exact hj_11 _ (by first | exact True.intro | ((try dsimp only); (repeat' apply And.intro) <;> first | with_reducible assumption | first | lia | grind [zu_at, zu_atL, zvn, z64_r]))
    refine zw_zg32 14 (by decide) (by (try dsimp only); first | lia | grind [zu_at, zu_atL, zvn, z64_r]) ?_
    refine zw_zg32 8 (by decide) (by (try dsimp only); first | lia | grind [zu_at, zu_atL, zvn, z64_r]) ?_
    refine zw_zd (by (try dsimp only); first | lia | grind [zu_at, zu_atL, zvn, z64_r]) ?_
    refine zw_zn (fun x_8 ex_8 => ?_)
    refine zw_ifc (lg_cmp_eq _ _) (fun c4 => ?_) (fun c4 => ?_)
    · refine zw_some ?_
      first | exact True.intro | ((try dsimp only); (repeat' apply And.intro) <;> first | with_reducible assumption | first | lia | grind [zu_at, zu_atL, zvn, z64_r])
    refine zw_zn (fun x_10 ex_10 => ?_)
    refine zw_some ?_
    first | exact True.intro | ((try dsimp only); (repeat' apply And.intro) <;> first | with_reducible assumption | first | lia | grind [zu_at, zu_atL, zvn, z64_r])
  refine zw_if (fun c5 => ?_) (fun c5 => ?_)
  · refine zw_zg32 28 (by decide) (by (try dsimp only); first | lia | grind [zu_at, zu_atL, zvn, z64_r]) ?_
    exact hj_3 _ (by first | exact True.intro | ((try dsimp only); (repeat' apply And.intro) <;> first | with_reducible assumption | first | lia | grind [zu_at, zu_atL, zvn, z64_r]))
  refine zw_zg32 28 (by decide) (by (try dsimp only); first | lia | grind [zu_at, zu_atL, zvn, z64_r]) ?_
  exact hj_3 _ (by first | exact True.intro | ((try dsimp only); (repeat' apply And.intro) <;> first | with_reducible assumption | first | lia | grind [zu_at, zu_atL, zvn, z64_r]))
set_option maxHeartbeats 4000000 in
set_option maxRecDepth 100000 in
theorem sf_X12_laysError (p1 : Int32) (f1 : Nat → Int32) (f2 : Nat → Int32) (f3 : Nat → Int32) (f4 : Nat → Int32) (f5 : Nat → Int32) (f6 : Nat → Int64) (f7 : Nat → Int64) (f8 : Nat → Int64) (f9 : Nat → Int64) (f10 : Nat → Int64) (h_p1 : 0 ≤ p1 ∧ p1 ≤ 13) (h_f1 : (∀ i : Nat, 0 ≤ f1 i ∧ f1 i ≤ 3)) (h_f4 : (∀ i : Nat, (-1) ≤ f4 i ∧ f4 i ≤ 13)) (h_f5 : (∀ i : Nat, (-1) ≤ f5 i ∧ f5 i ≤ 13)) (hx_0 : (∀ i : Nat, 1 ≤ f2 (f1 i).toNatClampNeg)) : zw (fn_X12_laysError p1 f1 f2 f3 f4 f5 f6 f7 f8 f9 f10) (fun r => True) := by
  unfold fn_X12_laysError
  refine zw_zg32 14 (by decide) (by (try dsimp only); first | lia | grind [zu_at, zu_atL, zvn, z64_r]) ?_
  refine zw_zg32 8 (by decide) (by (try dsimp only); first | lia | grind [zu_at, zu_atL, zvn, z64_r]) ?_
  refine zw_zg32 28 (by decide) (by (try dsimp only); first | lia | grind [zu_at, zu_atL, zvn, z64_r]) ?_
  refine zw_if (fun c1 => ?_) (fun c1 => ?_)
  · refine zw_zn1 ?_
    refine zw_some ?_
    first | exact True.intro | ((try dsimp only); (repeat' apply And.intro) <;> first | with_reducible assumption | first | lia | grind [zu_at, zu_atL, zvn, z64_r])
  refine zw_zb0 (sf_X12_castError p1 0 f1 f2 f4 f5 f6 f7 f8 (by first | with_reducible assumption | exact ⟨by with_reducible assumption, by with_reducible assumption⟩ | first | lia | grind [zu_at, zu_atL, zvn, z64_r]) (by first | with_reducible assumption | exact ⟨by with_reducible assumption, by with_reducible assumption⟩ | first | lia | grind [zu_at, zu_atL, zvn, z64_r]) (by first | with_reducible assumption | exact ⟨by with_reducible assumption, by with_reducible assumption⟩ | first | lia | grind [zu_at, zu_atL, zvn, z64_r]) (by first | with_reducible assumption | exact ⟨by with_reducible assumption, by with_reducible assumption⟩ | first | lia | grind [zu_at, zu_atL, zvn, z64_r]) (by first | with_reducible assumption | exact ⟨by with_reducible assumption, by with_reducible assumption⟩ | first | lia | grind [zu_at, zu_atL, zvn, z64_r]) (by first | with_reducible assumption | exact ⟨by with_reducible assumption, by with_reducible assumption⟩ | first | lia | grind [zu_at, zu_atL, zvn, z64_r])) (fun o_5 ho_5 => ?_)
  refine zw_zb0 (sf_X12_castError p1 1 f1 f2 f4 f5 f6 f7 f8 (by first | with_reducible assumption | exact ⟨by with_reducible assumption, by with_reducible assumption⟩ | first | lia | grind [zu_at, zu_atL, zvn, z64_r]) (by first | with_reducible assumption | exact ⟨by with_reducible assumption, by with_reducible assumption⟩ | first | lia | grind [zu_at, zu_atL, zvn, z64_r]) (by first | with_reducible assumption | exact ⟨by with_reducible assumption, by with_reducible assumption⟩ | first | lia | grind [zu_at, zu_atL, zvn, z64_r]) (by first | with_reducible assumption | exact ⟨by with_reducible assumption, by with_reducible assumption⟩ | first | lia | grind [zu_at, zu_atL, zvn, z64_r]) (by first | with_reducible assumption | exact ⟨by with_reducible assumption, by with_reducible assumption⟩ | first | lia | grind [zu_at, zu_atL, zvn, z64_r]) (by first | with_reducible assumption | exact ⟨by with_reducible assumption, by with_reducible assumption⟩ | first | lia | grind [zu_at, zu_atL, zvn, z64_r])) (fun o_9 ho_9 => ?_)
  refine zw_zj (fun _ => (f3 p1.toNatClampNeg) ≤ 2 ∧ 1 ≤ (f3 p1.toNatClampNeg)) (fun s_13 Hj_13 => ?_) (fun j_13 hj_13 => ?_)
  · obtain ⟨Hj_13_0, Hj_13_1⟩ := Hj_13
    refine zw_zg32 14 (by decide) (by (try dsimp only); first | lia | grind [zu_at, zu_atL, zvn, z64_r]) ?_
    refine zw_some ?_
    first | exact True.intro | ((try dsimp only); (repeat' apply And.intro) <;> first | with_reducible assumption | first | lia | grind [zu_at, zu_atL, zvn, z64_r])
  refine zw_if (fun c2 => ?_) (fun c2 => ?_)
  · exact hj_13 _ (by first | exact True.intro | ((try dsimp only); (repeat' apply And.intro) <;> first | with_reducible assumption | first | lia | grind [zu_at, zu_atL, zvn, z64_r]))
  refine zw_if (fun c3 => ?_) (fun c3 => ?_)
  · exact hj_13 _ (by first | exact True.intro | ((try dsimp only); (repeat' apply And.intro) <;> first | with_reducible assumption | first | lia | grind [zu_at, zu_atL, zvn, z64_r]))
  refine zw_if (fun c4 => ?_) (fun c4 => ?_)
  · refine zw_zb0 (sf_X12_lowOf p1 0 f4 f5 f9 f7 f8 (by first | with_reducible assumption | exact ⟨by with_reducible assumption, by with_reducible assumption⟩ | first | lia | grind [zu_at, zu_atL, zvn, z64_r]) (by first | with_reducible assumption | exact ⟨by with_reducible assumption, by with_reducible assumption⟩ | first | lia | grind [zu_at, zu_atL, zvn, z64_r]) (by first | with_reducible assumption | exact ⟨by with_reducible assumption, by with_reducible assumption⟩ | first | lia | grind [zu_at, zu_atL, zvn, z64_r]) (by first | with_reducible assumption | exact ⟨by with_reducible assumption, by with_reducible assumption⟩ | first | lia | grind [zu_at, zu_atL, zvn, z64_r])) (fun o_22 ho_22 => ?_)
    refine zw_zb0 (sf_X12_amount o_22) (fun o_26 ho_26 => ?_)
    refine zw_zb0 (sf_X12_highOf p1 0 f4 f5 f10 f7 f8 (by first | with_reducible assumption | exact ⟨by with_reducible assumption, by with_reducible assumption⟩ | first | lia | grind [zu_at, zu_atL, zvn, z64_r]) (by first | with_reducible assumption | exact ⟨by with_reducible assumption, by with_reducible assumption⟩ | first | lia | grind [zu_at, zu_atL, zvn, z64_r]) (by first | with_reducible assumption | exact ⟨by with_reducible assumption, by with_reducible assumption⟩ | first | lia | grind [zu_at, zu_atL, zvn, z64_r]) (by first | with_reducible assumption | exact ⟨by with_reducible assumption, by with_reducible assumption⟩ | first | lia | grind [zu_at, zu_atL, zvn, z64_r])) (fun o_30 ho_30 => ?_)
    refine zw_zb0 (sf_X12_amount o_30) (fun o_34 ho_34 => ?_)
    refine zw_zb0 (sf_X12_greater o_26 o_34) (fun o_38 ho_38 => ?_)
    refine zw_zb0 (sf_X12_lowOf p1 1 f4 f5 f9 f7 f8 (by first | with_reducible assumption | exact ⟨by with_reducible assumption, by with_reducible assumption⟩ | first | lia | grind [zu_at, zu_atL, zvn, z64_r]) (by first | with_reducible assumption | exact ⟨by with_reducible assumption, by with_reducible assumption⟩ | first | lia | grind [zu_at, zu_atL, zvn, z64_r]) (by first | with_reducible assumption | exact ⟨by with_reducible assumption, by with_reducible assumption⟩ | first | lia | grind [zu_at, zu_atL, zvn, z64_r]) (by first | with_reducible assumption | exact ⟨by with_reducible assumption, by with_reducible assumption⟩ | first | lia | grind [zu_at, zu_atL, zvn, z64_r])) (fun o_42 ho_42 => ?_)
    refine zw_zb0 (sf_X12_amount o_42) (fun o_46 ho_46 => ?_)
    refine zw_zb0 (sf_X12_highOf p1 1 f4 f5 f10 f7 f8 (by first | with_reducible assumption | exact ⟨by with_reducible assumption, by with_reducible assumption⟩ | first | lia | grind [zu_at, zu_atL, zvn, z64_r]) (by first | with_reducible assumption | exact ⟨by with_reducible assumption, by with_reducible assumption⟩ | first | lia | grind [zu_at, zu_atL, zvn, z64_r]) (by first | with_reducible assumption | exact ⟨by with_reducible assumption, by with_reducible assumption⟩ | first | lia | grind [zu_at, zu_atL, zvn, z64_r]) (by first | with_reducible assumption | exact ⟨by with_reducible assumption, by with_reducible assumption⟩ | first | lia | grind [zu_at, zu_atL, zvn, z64_r])) (fun o_50 ho_50 => ?_)
    refine zw_zb0 (sf_X12_amount o_50) (fun o_54 ho_54 => ?_)
    refine zw_zb0 (sf_X12_greater o_46 o_54) (fun o_58 ho_58 => ?_)
    refine zw_zb0 (sf_X12_floor (-(((o_38 * o_9) + (o_58 * o_5)) + (o_5 * o_9))) (1000 : Int64) (by first | with_reducible assumption | exact ⟨by with_reducible assumption, by with_reducible assumption⟩ | first | lia | grind [zu_at, zu_atL, zvn, z64_r])) (fun o_62 ho_62 => ?_)
    refine zw_zn (fun x_66 ex_66 => ?_)
    refine zw_some ?_
    first | exact True.intro | ((try dsimp only); (repeat' apply And.intro) <;> first | with_reducible assumption | first | lia | grind [zu_at, zu_atL, zvn, z64_r])
  refine zw_zb0 (sf_X12_greater o_5 o_9) (fun o_18 ho_18 => ?_)
  refine zw_some ?_
  first | exact True.intro | ((try dsimp only); (repeat' apply And.intro) <;> first | with_reducible assumption | first | lia | grind [zu_at, zu_atL, zvn, z64_r])
set_option maxHeartbeats 4000000 in
set_option maxRecDepth 100000 in
theorem sf_X12_passes (v0_33 : Int32) (w0_34 : Int64) (f1 : Nat → Int32) (f2 : Nat → Int32) (f3 : Nat → Int32) (f4 : Nat → Int32) (f5 : Nat → Int64) (f6 : Nat → Int64) (f7 : Nat → Int64) (f8 : Nat → Int64) (f9 : Nat → Int32) (f10 : Nat → Int32) (f11 : Nat → Int64) (f12 : Nat → Int32) (f13 : Nat → Int32) (h_f1 : (∀ i : Nat, 0 ≤ f1 i ∧ f1 i ≤ 14)) (h_f3 : (∀ i : Nat, (-1) ≤ f3 i ∧ f3 i ≤ 13)) (h_f4 : (∀ i : Nat, (-1) ≤ f4 i ∧ f4 i ≤ 13)) (h_f9 : (∀ i : Nat, 0 ≤ f9 i ∧ f9 i ≤ 3)) (hx_0 : (∀ i : Nat, 1 ≤ f10 (f9 i).toNatClampNeg)) : zw (fn_X12_passes v0_33 w0_34 f1 f2 f3 f4 f5 f6 f7 f8 f9 f10 f11 f12 f13) (fun r => 0 ≤ r.1 ∧ r.1 ≤ 1 ∧ (-2) ≤ r.2.1 ∧ 0 ≤ r.2.2.1 ∧ r.2.1 ≤ 13 ∧ r.2.2.1 ≤ 2 ∧ r.2.2.1 ≤ r.2.1 + 2 ∧ r.1 ≤ (f1 (0 : Int32).toNatClampNeg) + 1 ∧ r.2.2.1 ≤ (f1 (0 : Int32).toNatClampNeg) + 2 ∧ (r.1 = 1 → r.2.1 ≤ 12 ∧ r.2.2.1 ≤ 0 ∧ r.2.2.1 < r.1) ∧ (¬ r.1 = 1 → (-1) ≤ r.2.1 ∧ 1 ≤ r.2.2.1 ∧ r.1 ≤ 0) ∧ (r.1 = 0 → (-1) ≤ r.2.1 ∧ 1 ≤ r.2.2.1 ∧ r.1 < r.2.2.1 ∧ r.1 ≤ (f1 (0 : Int32).toNatClampNeg)) ∧ (¬ r.1 = 0 → 1 ≤ r.1 ∧ r.2.1 ≤ 12 ∧ r.2.2.1 ≤ 0)) := by
  unfold fn_X12_passes
  refine zw_zl32 (fun s_1 => (s_1.2.2.1 = 0 → s_1.2.1 = (-2)) ∧ 0 ≤ s_1.1 ∧ s_1.1 ≤ 14 ∧ (-2) ≤ s_1.2.1 ∧ s_1.2.1 ≤ 13 ∧ 0 ≤ s_1.2.2.1 ∧ s_1.2.2.1 ≤ 2 ∧ s_1.2.1 < s_1.1 ∧ s_1.2.2.1 ≤ s_1.1 + 1 ∧ s_1.2.2.1 ≤ s_1.2.1 + 2) (fun s_1 => 14 - s_1.1) (by (try dsimp only); (repeat' apply And.intro) <;> first | with_reducible assumption | first | lia | grind [zu_at, zu_atL, zvn]) (by (try dsimp only); first | lia | grind [zu_at, zu_atL, zvn]) (fun s_1 back_1 Hback_1 hback_1 => ?_)
  obtain ⟨s_1_0, s_1_1, s_1_2, s_1_3, s_1_4, s_1_5⟩ := s_1
  try dsimp only at Hback_1 hback_1
  obtain ⟨Hback_1_0, Hback_1_1, Hback_1_2, Hback_1_3, Hback_1_4, Hback_1_5, Hback_1_6, Hback_1_7, Hback_1_8, Hback_1_9⟩ := Hback_1
  refine zw_if (fun c1 => ?_) (fun c1 => ?_)
  · refine zw_if (fun c2 => ?_) (fun c2 => ?_)
    · refine zw_some ?_
      first | exact True.intro | ((try dsimp only); (repeat' apply And.intro) <;> first | with_reducible assumption | ((try clear hback_1); first | lia | grind [zu_at, zu_atL, zvn]))
    refine zw_some ?_
    first | exact True.intro | ((try dsimp only); (repeat' apply And.intro) <;> first | with_reducible assumption | ((try clear hback_1); first | lia | grind [zu_at, zu_atL, zvn]))
  refine zw_if (fun c3 => ?_) (fun c3 => ?_)
  · refine zw_zb0 (sf_X12_laysRange s_1_0 v0_33 w0_34 f2 f3 f4 s_1_3 f6 f7 s_1_4 (by first | with_reducible assumption | exact ⟨by with_reducible assumption, by with_reducible assumption⟩ | ((try clear hback_1); first | lia | grind [zu_at, zu_atL, zvn])) (by first | with_reducible assumption | exact ⟨by with_reducible assumption, by with_reducible assumption⟩ | ((try clear hback_1); first | lia | grind [zu_at, zu_atL, zvn])) (by first | with_reducible assumption | exact ⟨by with_reducible assumption, by with_reducible assumption⟩ | ((try clear hback_1); first | lia | grind [zu_at, zu_atL, zvn]))) (fun o_6 ho_6 => ?_)
    obtain ⟨o_6_0, o_6_1⟩ := o_6
    try dsimp only at ho_6
    refine zw_zb0 (sf_X12_laysError s_1_0 f9 f10 f2 f3 f4 s_1_5 f6 f7 o_6_0 o_6_1 (by first | with_reducible assumption | exact ⟨by with_reducible assumption, by with_reducible assumption⟩ | ((try clear hback_1); first | lia | grind [zu_at, zu_atL, zvn])) (by first | with_reducible assumption | exact ⟨by with_reducible assumption, by with_reducible assumption⟩ | ((try clear hback_1); first | lia | grind [zu_at, zu_atL, zvn])) (by first | with_reducible assumption | exact ⟨by with_reducible assumption, by with_reducible assumption⟩ | ((try clear hback_1); first | lia | grind [zu_at, zu_atL, zvn])) (by first | with_reducible assumption | exact ⟨by with_reducible assumption, by with_reducible assumption⟩ | ((try clear hback_1); first | lia | grind [zu_at, zu_atL, zvn])) (by first | with_reducible assumption | exact ⟨by with_reducible assumption, by with_reducible assumption⟩ | ((try clear hback_1); first | lia | grind [zu_at, zu_atL, zvn]))) (fun o_10 ho_10 => ?_)
    refine zw_zb0 (sf_X12_mostOf s_1_0 o_6_0 o_6_1 (by first | with_reducible assumption | exact ⟨by with_reducible assumption, by with_reducible assumption⟩ | ((try clear hback_1); first | lia | grind [zu_at, zu_atL, zvn]))) (fun o_14 ho_14 => ?_)
    refine zw_zg32 14 (by decide) (by (try dsimp only); ((try clear hback_1); first | lia | grind [zu_at, zu_atL, zvn])) ?_
    refine zw_zg32 8 (by decide) (by (try dsimp only); ((try clear hback_1); first | lia | grind [zu_at, zu_atL, zvn])) ?_
    refine zw_ifc (lg_cmp_le _ _) (fun c4 => ?_) (fun c4 => ?_)
    · refine zw_zg32 28 (by decide) (by (try dsimp only); ((try clear hback_1); first | lia | grind [zu_at, zu_atL, zvn])) ?_
      refine zw_if (fun c5 => ?_) (fun c5 => ?_)
      · refine zw_if (fun c6 => ?_) (fun c6 => ?_)
        · exact hback_1 _ (by (try dsimp only); (repeat' apply And.intro) <;> first | with_reducible assumption | ((try clear hback_1); first | lia | grind [zu_at, zu_atL, zvn])) (by (try dsimp only); ((try clear hback_1); first | lia | grind [zu_at, zu_atL, zvn])) (by (try dsimp only); ((try clear hback_1); first | lia | grind [zu_at, zu_atL, zvn]))
        exact hback_1 _ (by (try dsimp only); (repeat' apply And.intro) <;> first | with_reducible assumption | ((try clear hback_1); first | lia | grind [zu_at, zu_atL, zvn])) (by (try dsimp only); ((try clear hback_1); first | lia | grind [zu_at, zu_atL, zvn])) (by (try dsimp only); ((try clear hback_1); first | lia | grind [zu_at, zu_atL, zvn]))
      refine zw_ifc (lg_cmp_le _ _) (fun c7 => ?_) (fun c7 => ?_)
      · refine zw_if (fun c8 => ?_) (fun c8 => ?_)
        · exact hback_1 _ (by (try dsimp only); (repeat' apply And.intro) <;> first | with_reducible assumption | ((try clear hback_1); first | lia | grind [zu_at, zu_atL, zvn])) (by (try dsimp only); ((try clear hback_1); first | lia | grind [zu_at, zu_atL, zvn])) (by (try dsimp only); ((try clear hback_1); first | lia | grind [zu_at, zu_atL, zvn]))
        exact hback_1 _ (by (try dsimp only); (repeat' apply And.intro) <;> first | with_reducible assumption | ((try clear hback_1); first | lia | grind [zu_at, zu_atL, zvn])) (by (try dsimp only); ((try clear hback_1); first | lia | grind [zu_at, zu_atL, zvn])) (by (try dsimp only); ((try clear hback_1); first | lia | grind [zu_at, zu_atL, zvn]))
      exact hback_1 _ (by (try dsimp only); (repeat' apply And.intro) <;> first | with_reducible assumption | ((try clear hback_1); first | lia | grind [zu_at, zu_atL, zvn])) (by (try dsimp only); ((try clear hback_1); first | lia | grind [zu_at, zu_atL, zvn])) (by (try dsimp only); ((try clear hback_1); first | lia | grind [zu_at, zu_atL, zvn]))
    exact hback_1 _ (by (try dsimp only); (repeat' apply And.intro) <;> first | with_reducible assumption | ((try clear hback_1); first | lia | grind [zu_at, zu_atL, zvn])) (by (try dsimp only); ((try clear hback_1); first | lia | grind [zu_at, zu_atL, zvn])) (by (try dsimp only); ((try clear hback_1); first | lia | grind [zu_at, zu_atL, zvn]))
  refine zw_if (fun c9 => ?_) (fun c9 => ?_)
  · refine zw_some ?_
    first | exact True.intro | ((try dsimp only); (repeat' apply And.intro) <;> first | with_reducible assumption | ((try clear hback_1); first | lia | grind [zu_at, zu_atL, zvn]))
  refine zw_some ?_
  first | exact True.intro | ((try dsimp only); (repeat' apply And.intro) <;> first | with_reducible assumption | ((try clear hback_1); first | lia | grind [zu_at, zu_atL, zvn]))
set_option maxHeartbeats 4000000 in
set_option maxRecDepth 100000 in
theorem sf_X12_isCast (p1 : Int32) (p2 : Int32) (f1 : Nat → Int32) (h_p1 : 0 ≤ p1 ∧ p1 ≤ 13) (h_p2 : (-1) ≤ p2 ∧ p2 ≤ 13) (h_f1 : (∀ i : Nat, 0 ≤ f1 i ∧ f1 i ≤ 3)) : zw (fn_X12_isCast p1 p2 f1) (fun r => 0 ≤ r ∧ r ≤ 1 ∧ r ≤ p2 + 1 ∧ (r = 0 → r ≤ p1) ∧ (¬ r = 0 → 0 ≤ p2 ∧ 1 ≤ r ∧ (f1 p1.toNatClampNeg) ≤ 3 ∧ (f1 p2.toNatClampNeg) ≤ 3 ∧ 0 ≤ (f1 p1.toNatClampNeg) ∧ 0 ≤ (f1 p2.toNatClampNeg)) ∧ (r = 1 → 0 ≤ p2 ∧ (f1 p1.toNatClampNeg) ≤ 3 ∧ (f1 p2.toNatClampNeg) ≤ 3 ∧ 0 ≤ (f1 p1.toNatClampNeg) ∧ 0 ≤ (f1 p2.toNatClampNeg) ∧ (f1 p1.toNatClampNeg) ≤ r + 2 ∧ (f1 p2.toNatClampNeg) ≤ r + 2) ∧ (¬ r = 1 → r ≤ 0)) := by
  unfold fn_X12_isCast
  refine zw_if (fun c1 => ?_) (fun c1 => ?_)
  · refine zw_some ?_
    first | exact True.intro | ((try dsimp only); (repeat' apply And.intro) <;> first | with_reducible assumption | first | lia | grind [zu_at, zu_atL, zvn])
  refine zw_zg32 14 (by decide) (by (try dsimp only); first | lia | grind [zu_at, zu_atL, zvn]) ?_
  refine zw_zg32 14 (by decide) (by (try dsimp only); first | lia | grind [zu_at, zu_atL, zvn]) ?_
  refine zw_if (fun c2 => ?_) (fun c2 => ?_)
  · refine zw_some ?_
    first | exact True.intro | ((try dsimp only); (repeat' apply And.intro) <;> first | with_reducible assumption | first | lia | grind [zu_at, zu_atL, zvn])
  refine zw_some ?_
  first | exact True.intro | ((try dsimp only); (repeat' apply And.intro) <;> first | with_reducible assumption | first | lia | grind [zu_at, zu_atL, zvn])
set_option maxHeartbeats 4000000 in
set_option maxRecDepth 100000 in
theorem sf_X12_castsTried (f1 : Nat → Int32) (f2 : Nat → Int32) (f3 : Nat → Int32) (f4 : Nat → Int32) (h_f1 : (∀ i : Nat, 0 ≤ f1 i ∧ f1 i ≤ 14)) (h_f2 : (∀ i : Nat, (-1) ≤ f2 i ∧ f2 i ≤ 13)) (h_f3 : (∀ i : Nat, 0 ≤ f3 i ∧ f3 i ≤ 3)) (h_f4 : (∀ i : Nat, (-1) ≤ f4 i ∧ f4 i ≤ 13)) : zw (fn_X12_castsTried f1 f2 f3 f4) (fun r => True) := by
  unfold fn_X12_castsTried
  refine zw_zl32 (fun s_1 => 0 ≤ s_1.2 ∧ s_1.2 ≤ 14) (fun s_1 => 14 - s_1.2) (by (try dsimp only); (repeat' apply And.intro) <;> first | with_reducible assumption | first | lia | grind [zu_at, zu_atL, zvn]) (by (try dsimp only); first | lia | grind [zu_at, zu_atL, zvn]) (fun s_1 back_1 Hback_1 hback_1 => ?_)
  obtain ⟨s_1_0, s_1_1⟩ := s_1
  try dsimp only at Hback_1 hback_1
  obtain ⟨Hback_1_0, Hback_1_1⟩ := Hback_1
  refine zw_if (fun c1 => ?_) (fun c1 => ?_)
  · refine zw_some ?_
    first | exact True.intro | ((try dsimp only); (repeat' apply And.intro) <;> first | with_reducible assumption | ((try clear hback_1); first | lia | grind [zu_at, zu_atL, zvn]))
  refine zw_zg32 28 (by decide) (by (try dsimp only); ((try clear hback_1); first | lia | grind [zu_at, zu_atL, zvn])) ?_
  refine zw_zb0 (sf_X12_isCast s_1_1 (f2 s_1_1.toNatClampNeg) f3 (by first | with_reducible assumption | exact ⟨by with_reducible assumption, by with_reducible assumption⟩ | ((try clear hback_1); first | lia | grind [zu_at, zu_atL, zvn])) (by first | with_reducible assumption | exact ⟨by with_reducible assumption, by with_reducible assumption⟩ | ((try clear hback_1); first | lia | grind [zu_at, zu_atL, zvn])) (by first | with_reducible assumption | exact ⟨by with_reducible assumption, by with_reducible assumption⟩ | ((try clear hback_1); first | lia | grind [zu_at, zu_atL, zvn]))) (fun o_4 ho_4 => ?_)
  obtain ⟨ho_4_0, ho_4_1, ho_4_2, ho_4_3, ho_4_4, ho_4_5, ho_4_6⟩ := ho_4
  refine zw_zj (fun s_8 => 0 ≤ s_8 ∧ s_8 ≤ 1 ∧ o_4 ≤ s_8 ∧ s_8 ≤ o_4) (fun s_8 Hj_8 => ?_) (fun j_8 hj_8 => ?_)
  · obtain ⟨Hj_8_0, Hj_8_1, Hj_8_2, Hj_8_3⟩ := Hj_8
    refine zw_zg32 28 (by decide) (by (try dsimp only); ((try clear hback_1); (try clear hj_8); first | lia | grind [zu_at, zu_atL, zvn])) ?_
    refine zw_zb0 (sf_X12_isCast s_1_1 (f4 s_1_1.toNatClampNeg) f3 (by first | with_reducible assumption | exact ⟨by with_reducible assumption, by with_reducible assumption⟩ | ((try clear hback_1); (try clear hj_8); first | lia | grind [zu_at, zu_atL, zvn])) (by first | with_reducible assumption | exact ⟨by with_reducible assumption, by with_reducible assumption⟩ | ((try clear hback_1); (try clear hj_8); first | lia | grind [zu_at, zu_atL, zvn])) (by first | with_reducible assumption | exact ⟨by with_reducible assumption, by with_reducible assumption⟩ | ((try clear hback_1); (try clear hj_8); first | lia | grind [zu_at, zu_atL, zvn]))) (fun o_10 ho_10 => ?_)
    obtain ⟨ho_10_0, ho_10_1, ho_10_2, ho_10_3, ho_10_4, ho_10_5, ho_10_6⟩ := ho_10
    refine zw_if (fun c2 => ?_) (fun c2 => ?_)
    · exact hback_1 _ (by (try dsimp only); (repeat' apply And.intro) <;> first | with_reducible assumption | ((try clear hback_1); (try clear hj_8); first | lia | grind [zu_at, zu_atL, zvn])) (by (try dsimp only); ((try clear hback_1); (try clear hj_8); first | lia | grind [zu_at, zu_atL, zvn])) (by (try dsimp only); ((try clear hback_1); (try clear hj_8); first | lia | grind [zu_at, zu_atL, zvn]))
    exact hback_1 _ (by (try dsimp only); (repeat' apply And.intro) <;> first | with_reducible assumption | ((try clear hback_1); (try clear hj_8); first | lia | grind [zu_at, zu_atL, zvn])) (by (try dsimp only); ((try clear hback_1); (try clear hj_8); first | lia | grind [zu_at, zu_atL, zvn])) (by (try dsimp only); ((try clear hback_1); (try clear hj_8); first | lia | grind [zu_at, zu_atL, zvn]))
  refine zw_if (fun c3 => ?_) (fun c3 => ?_)
  · exact hj_8 _ (by first | exact True.intro | ((try dsimp only); (repeat' apply And.intro) <;> first | with_reducible assumption | ((try clear hback_1); (try clear hj_8); first | lia | grind [zu_at, zu_atL, zvn])))
  exact hj_8 _ (by first | exact True.intro | ((try dsimp only); (repeat' apply And.intro) <;> first | with_reducible assumption | ((try clear hback_1); (try clear hj_8); first | lia | grind [zu_at, zu_atL, zvn])))
set_option maxHeartbeats 4000000 in
set_option maxRecDepth 100000 in
theorem sf_X12_costTried (f1 : Nat → Int32) (f2 : Nat → Int32) (f3 : Nat → Int32) (f4 : Nat → Int32) (f5 : Nat → Int32) (f6 : Nat → Int32) (h_f2 : (∀ i : Nat, 0 ≤ f2 i ∧ f2 i ≤ 14)) (h_f3 : (∀ i : Nat, (-1) ≤ f3 i ∧ f3 i ≤ 13)) (h_f4 : (∀ i : Nat, 0 ≤ f4 i ∧ f4 i ≤ 3)) (h_f5 : (∀ i : Nat, (-1) ≤ f5 i ∧ f5 i ≤ 13)) : zw (fn_X12_costTried f1 f2 f3 f4 f5 f6) (fun r => True) := by
  unfold fn_X12_costTried
  refine zw_zb0 (sf_X12_castsTried f2 f3 f4 f5 (by first | with_reducible assumption | exact ⟨by with_reducible assumption, by with_reducible assumption⟩ | first | lia | grind [zu_at, zu_atL, zvn]) (by first | with_reducible assumption | exact ⟨by with_reducible assumption, by with_reducible assumption⟩ | first | lia | grind [zu_at, zu_atL, zvn]) (by first | with_reducible assumption | exact ⟨by with_reducible assumption, by with_reducible assumption⟩ | first | lia | grind [zu_at, zu_atL, zvn]) (by first | with_reducible assumption | exact ⟨by with_reducible assumption, by with_reducible assumption⟩ | first | lia | grind [zu_at, zu_atL, zvn])) (fun o_1 ho_1 => ?_)
  refine zw_zl32 (fun s_5 => 0 ≤ s_5.2 ∧ s_5.2 ≤ 14 ∧ s_5.2 ≤ (f2 (0 : Int32).toNatClampNeg)) (fun s_5 => 14 - s_5.2) (by (try dsimp only); (repeat' apply And.intro) <;> first | with_reducible assumption | first | lia | grind [zu_at, zu_atL, zvn]) (by (try dsimp only); first | lia | grind [zu_at, zu_atL, zvn]) (fun s_5 back_5 Hback_5 hback_5 => ?_)
  obtain ⟨s_5_0, s_5_1⟩ := s_5
  try dsimp only at Hback_5 hback_5
  obtain ⟨Hback_5_0, Hback_5_1, Hback_5_2⟩ := Hback_5
  refine zw_if (fun c1 => ?_) (fun c1 => ?_)
  · refine zw_some ?_
    first | exact True.intro | ((try dsimp only); (repeat' apply And.intro) <;> first | with_reducible assumption | ((try clear hback_5); first | lia | grind [zu_at, zu_atL, zvn]))
  refine zw_zg32 14 (by decide) (by (try dsimp only); ((try clear hback_5); first | lia | grind [zu_at, zu_atL, zvn])) ?_
  refine zw_zg32 8 (by decide) (by (try dsimp only); ((try clear hback_5); first | lia | grind [zu_at, zu_atL, zvn])) ?_
  exact hback_5 _ (by (try dsimp only); (repeat' apply And.intro) <;> first | with_reducible assumption | ((try clear hback_5); first | lia | grind [zu_at, zu_atL, zvn])) (by (try dsimp only); ((try clear hback_5); first | lia | grind [zu_at, zu_atL, zvn])) (by (try dsimp only); ((try clear hback_5); first | lia | grind [zu_at, zu_atL, zvn]))
set_option maxHeartbeats 4000000 in
set_option maxRecDepth 100000 in
theorem sf_X12_handPasses (w0_34 : Int64) (v0_38 : Int32) (v0_41 : Int32) (v0_42 : Int32) (f1 : Nat → Int32) (f2 : Nat → Int32) (f3 : Nat → Int32) (f4 : Nat → Int32) (f5 : Nat → Int32) (f6 : Nat → Int32) (f7 : Nat → Int64) (f8 : Nat → Int64) (f9 : Nat → Int64) (f10 : Nat → Int64) (f11 : Nat → Int32) (f12 : Nat → Int64) (f13 : Nat → Int32) (f14 : Nat → Int32) (h_v0_38 : 0 ≤ v0_38 ∧ v0_38 ≤ 1) (h_f1 : (∀ i : Nat, 0 ≤ f1 i ∧ f1 i ≤ 14)) (h_f2 : (∀ i : Nat, 0 ≤ f2 i ∧ f2 i ≤ 3)) (h_f3 : (∀ i : Nat, 0 ≤ f3 i ∧ f3 i ≤ 3)) (h_f5 : (∀ i : Nat, (-1) ≤ f5 i ∧ f5 i ≤ 13)) (h_f6 : (∀ i : Nat, (-1) ≤ f6 i ∧ f6 i ≤ 13)) (hx_0 : f1 (0 : Int32).toNatClampNeg ≤ 0 ∨ (∀ i : Nat, 1 ≤ f11 (f2 i).toNatClampNeg) ∧ (∀ i : Nat, 1 ≤ f11 (f3 i).toNatClampNeg)) : zw (fn_X12_handPasses w0_34 v0_38 v0_41 v0_42 f1 f2 f3 f4 f5 f6 f7 f8 f9 f10 f11 f12 f13 f14) (fun r => 0 ≤ r.1 ∧ r.1 ≤ 1 ∧ (∀ i : Nat, 0 ≤ r.2.2.2.2.1 i ∧ r.2.2.2.2.1 i ≤ 3) ∧ (-1) ≤ r.2.1 ∧ r.2.1 ≤ (-1) ∧ r.1 ≤ v0_38 ∧ (r.1 = 0 → r.1 ≤ r.2.1 + 1) ∧ (¬ r.1 = 0 → 1 ≤ r.1 ∧ (-2) ≤ r.2.2.1 ∧ 0 ≤ r.2.2.2.1 ∧ r.2.2.1 ≤ 12 ∧ r.2.2.2.1 ≤ 0 ∧ (f1 (0 : Int32).toNatClampNeg) ≤ 14 ∧ 1 ≤ (f1 (0 : Int32).toNatClampNeg)) ∧ (r.1 = 1 → (-2) ≤ r.2.2.1 ∧ 0 ≤ r.2.2.2.1 ∧ r.2.2.1 ≤ 12 ∧ r.2.2.2.1 ≤ 0 ∧ 1 ≤ v0_38 ∧ v0_38 ≤ r.1 ∧ (f1 (0 : Int32).toNatClampNeg) ≤ 14 ∧ 1 ≤ (f1 (0 : Int32).toNatClampNeg)) ∧ (¬ r.1 = 1 → r.1 ≤ 0) ∧ (∀ i : Nat, r.2.2.2.2.1 i = f2 i ∨ r.2.2.2.2.1 i = f3 i)) := by
  unfold fn_X12_handPasses
  refine zw_if (fun c1 => ?_) (fun c1 => ?_)
  · refine zw_some ?_
    first | exact True.intro | ((try dsimp only); (repeat' apply And.intro) <;> first | with_reducible assumption | first | lia | grind [zu_at, zu_atL, zvn])
  refine zw_if (fun c2 => ?_) (fun c2 => ?_)
  · refine zw_some ?_
    first | exact True.intro | ((try dsimp only); (repeat' apply And.intro) <;> first | with_reducible assumption | first | lia | grind [zu_at, zu_atL, zvn])
  refine zw_zb0 (sf_X12_triesHand f1 f2 f3 (by first | with_reducible assumption | exact ⟨by with_reducible assumption, by with_reducible assumption⟩ | first | lia | grind [zu_at, zu_atL, zvn]) (by first | with_reducible assumption | exact ⟨by with_reducible assumption, by with_reducible assumption⟩ | first | lia | grind [zu_at, zu_atL, zvn]) (by first | with_reducible assumption | exact ⟨by with_reducible assumption, by with_reducible assumption⟩ | first | lia | grind [zu_at, zu_atL, zvn])) (fun o_3 ho_3 => ?_)
  obtain ⟨ho_3_0, ho_3_1⟩ := ho_3
  refine zw_zb0 (sf_X12_passes (-1) w0_34 f1 f4 f5 f6 f7 f8 f9 f10 o_3 f11 f12 f13 f14 (by first | with_reducible assumption | exact ⟨by with_reducible assumption, by with_reducible assumption⟩ | first | lia | grind [zu_at, zu_atL, zvn]) (by first | with_reducible assumption | exact ⟨by with_reducible assumption, by with_reducible assumption⟩ | first | lia | grind [zu_at, zu_atL, zvn]) (by first | with_reducible assumption | exact ⟨by with_reducible assumption, by with_reducible assumption⟩ | first | lia | grind [zu_at, zu_atL, zvn]) (by first | with_reducible assumption | exact ⟨by with_reducible assumption, by with_reducible assumption⟩ | first | lia | grind [zu_at, zu_atL, zvn]) (by first | with_reducible assumption | exact ⟨by with_reducible assumption, by with_reducible assumption⟩ | first | lia | grind [zu_at, zu_atL, zvn])) (fun o_7 ho_7 => ?_)
  obtain ⟨o_7_0, o_7_1, o_7_2, o_7_3, o_7_4, o_7_5⟩ := o_7
  try dsimp only at ho_7
  obtain ⟨ho_7_0, ho_7_1, ho_7_2, ho_7_3, ho_7_4, ho_7_5, ho_7_6, ho_7_7, ho_7_8, ho_7_9, ho_7_10, ho_7_11, ho_7_12⟩ := ho_7
  refine zw_some ?_
  first | exact True.intro | ((try dsimp only); (repeat' apply And.intro) <;> first | with_reducible assumption | first | lia | grind [zu_at, zu_atL, zvn])
set_option maxHeartbeats 4000000 in
set_option maxRecDepth 100000 in
theorem sf_X12_chosen (p1 : Int32) (v0_38 : Int32) (f1 : Nat → Int32) (f2 : Nat → Int32) (h_v0_38 : 0 ≤ v0_38 ∧ v0_38 ≤ 1) (h_f1 : (∀ i : Nat, 0 ≤ f1 i ∧ f1 i ≤ 14)) (h_f2 : (∀ i : Nat, 0 ≤ f2 i ∧ f2 i ≤ 3)) : zw (fn_X12_chosen p1 v0_38 f1 f2) (fun r => (-1) ≤ r ∧ r ≤ 3) := by
  unfold fn_X12_chosen
  refine zw_if (fun c1 => ?_) (fun c1 => ?_)
  · refine zw_some ?_
    first | exact True.intro | ((try dsimp only); (repeat' apply And.intro) <;> first | with_reducible assumption | first | lia | grind [zu_at, zu_atL, zvn])
  refine zw_zb0 (sf_X12_isNumber p1 f1 (by first | with_reducible assumption | exact ⟨by with_reducible assumption, by with_reducible assumption⟩ | first | lia | grind [zu_at, zu_atL, zvn])) (fun o_2 ho_2 => ?_)
  obtain ⟨ho_2_0, ho_2_1, ho_2_2, ho_2_3, ho_2_4, ho_2_5⟩ := ho_2
  refine zw_if (fun c2 => ?_) (fun c2 => ?_)
  · refine zw_some ?_
    first | exact True.intro | ((try dsimp only); (repeat' apply And.intro) <;> first | with_reducible assumption | first | lia | grind [zu_at, zu_atL, zvn])
  refine zw_zg32 14 (by decide) (by (try dsimp only); first | lia | grind [zu_at, zu_atL, zvn]) ?_
  refine zw_some ?_
  first | exact True.intro | ((try dsimp only); (repeat' apply And.intro) <;> first | with_reducible assumption | first | lia | grind [zu_at, zu_atL, zvn])
set_option maxHeartbeats 4000000 in
set_option maxRecDepth 100000 in
theorem sf_X12_choose (p1 : Int32) (p2 : Int32) (v0_38 : Int32) (f1 : Nat → Int32) (f2 : Nat → Int32) (f3 : Nat → Int32) (f4 : Nat → Int32) (f5 : Nat → Int32) (f6 : Nat → Int32) (h_v0_38 : 0 ≤ v0_38 ∧ v0_38 ≤ 1) (h_f2 : (∀ i : Nat, 0 ≤ f2 i ∧ f2 i ≤ 14)) (h_f3 : (∀ i : Nat, 0 ≤ f3 i ∧ f3 i ≤ 4)) (h_f4 : (∀ i : Nat, 0 ≤ f4 i ∧ f4 i ≤ 13)) (h_f5 : (∀ i : Nat, (-1) ≤ f5 i ∧ f5 i ≤ 3)) (h_f6 : (∀ i : Nat, 0 ≤ f6 i ∧ f6 i ≤ 3)) : zw (fn_X12_choose p1 p2 v0_38 f1 f2 f3 f4 f5 f6) (fun r => (∀ i : Nat, 0 ≤ r.2.2 i ∧ r.2.2 i ≤ 3) ∧ (-1) ≤ r.1 ∧ r.1 ≤ 3 ∧ (∀ i : Nat, r.2.2 i = f6 i ∨ 0 ≤ r.2.2 i ∧ r.2.2 i < f3 (0 : Int32).toNatClampNeg)) := by
  unfold fn_X12_choose
  refine zw_if (fun c1 => ?_) (fun c1 => ?_)
  · refine zw_zb0 (sf_X12_refuses 2 f1 (by first | with_reducible assumption | exact ⟨by with_reducible assumption, by with_reducible assumption⟩ | first | lia | grind [zu_at, zu_atL, zvn])) (fun o_2 ho_2 => ?_)
    obtain ⟨o_2_0, o_2_1⟩ := o_2
    try dsimp only at ho_2
    obtain ⟨ho_2_0, ho_2_1⟩ := ho_2
    refine zw_some ?_
    first | exact True.intro | ((try dsimp only); (repeat' apply And.intro) <;> first | with_reducible assumption | first | lia | grind [zu_at, zu_atL, zvn])
  refine zw_zb0 (sf_X12_isNumber p1 f2 (by first | with_reducible assumption | exact ⟨by with_reducible assumption, by with_reducible assumption⟩ | first | lia | grind [zu_at, zu_atL, zvn])) (fun o_6 ho_6 => ?_)
  obtain ⟨ho_6_0, ho_6_1, ho_6_2, ho_6_3, ho_6_4, ho_6_5⟩ := ho_6
  refine zw_if (fun c2 => ?_) (fun c2 => ?_)
  · refine zw_zb0 (sf_X12_refuses 2 f1 (by first | with_reducible assumption | exact ⟨by with_reducible assumption, by with_reducible assumption⟩ | first | lia | grind [zu_at, zu_atL, zvn])) (fun o_11 ho_11 => ?_)
    obtain ⟨o_11_0, o_11_1⟩ := o_11
    try dsimp only at ho_11
    obtain ⟨ho_11_0, ho_11_1⟩ := ho_11
    refine zw_some ?_
    first | exact True.intro | ((try dsimp only); (repeat' apply And.intro) <;> first | with_reducible assumption | first | lia | grind [zu_at, zu_atL, zvn])
  refine zw_zb0 (sf_X12_isFormat p2 f3 (by first | with_reducible assumption | exact ⟨by with_reducible assumption, by with_reducible assumption⟩ | first | lia | grind [zu_at, zu_atL, zvn])) (fun o_15 ho_15 => ?_)
  obtain ⟨ho_15_0, ho_15_1, ho_15_2, ho_15_3, ho_15_4, ho_15_5, ho_15_6⟩ := ho_15
  refine zw_if (fun c3 => ?_) (fun c3 => ?_)
  · refine zw_zb0 (sf_X12_refuses 2 f1 (by first | with_reducible assumption | exact ⟨by with_reducible assumption, by with_reducible assumption⟩ | first | lia | grind [zu_at, zu_atL, zvn])) (fun o_20 ho_20 => ?_)
    obtain ⟨o_20_0, o_20_1⟩ := o_20
    try dsimp only at ho_20
    obtain ⟨ho_20_0, ho_20_1⟩ := ho_20
    refine zw_some ?_
    first | exact True.intro | ((try dsimp only); (repeat' apply And.intro) <;> first | with_reducible assumption | first | lia | grind [zu_at, zu_atL, zvn])
  refine zw_zg32 28 (by decide) (by (try dsimp only); first | lia | grind [zu_at, zu_atL, zvn]) ?_
  refine zw_zb0 (sf_X12_isFree (f4 p1.toNatClampNeg) f2 f4 f5 (by first | with_reducible assumption | exact ⟨by with_reducible assumption, by with_reducible assumption⟩ | first | lia | grind [zu_at, zu_atL, zvn]) (by first | with_reducible assumption | exact ⟨by with_reducible assumption, by with_reducible assumption⟩ | first | lia | grind [zu_at, zu_atL, zvn]) (by first | with_reducible assumption | exact ⟨by with_reducible assumption, by with_reducible assumption⟩ | first | lia | grind [zu_at, zu_atL, zvn])) (fun o_25 ho_25 => ?_)
  obtain ⟨ho_25_0, ho_25_1, ho_25_2, ho_25_3, ho_25_4, ho_25_5⟩ := ho_25
  refine zw_if (fun c4 => ?_) (fun c4 => ?_)
  · refine zw_zb0 (sf_X12_refuses 2 f1 (by first | with_reducible assumption | exact ⟨by with_reducible assumption, by with_reducible assumption⟩ | first | lia | grind [zu_at, zu_atL, zvn])) (fun o_39 ho_39 => ?_)
    obtain ⟨o_39_0, o_39_1⟩ := o_39
    try dsimp only at ho_39
    obtain ⟨ho_39_0, ho_39_1⟩ := ho_39
    refine zw_some ?_
    first | exact True.intro | ((try dsimp only); (repeat' apply And.intro) <;> first | with_reducible assumption | first | lia | grind [zu_at, zu_atL, zvn])
  refine zw_zg32 14 (by decide) (by (try dsimp only); first | lia | grind [zu_at, zu_atL, zvn]) ?_
  refine zw_zl32 (fun s_31 => (∀ i : Nat, 0 ≤ s_31.2 i ∧ s_31.2 i ≤ 3) ∧ 0 ≤ s_31.1 ∧ s_31.1 ≤ 14 ∧ s_31.1 ≤ (f2 (0 : Int32).toNatClampNeg) ∧ (∀ i : Nat, s_31.2 i = f6 i ∨ 0 ≤ s_31.2 i ∧ s_31.2 i < f3 (0 : Int32).toNatClampNeg)) (fun s_31 => 14 - s_31.1) (by (try dsimp only); (repeat' apply And.intro) <;> first | with_reducible assumption | first | lia | grind [zu_at, zu_atL, zvn]) (by (try dsimp only); first | lia | grind [zu_at, zu_atL, zvn]) (fun s_31 back_31 Hback_31 hback_31 => ?_)
  obtain ⟨s_31_0, s_31_1⟩ := s_31
  try dsimp only at Hback_31 hback_31
  obtain ⟨Hback_31_0, Hback_31_1, Hback_31_2, Hback_31_3, Hback_31_4⟩ := Hback_31
  refine zw_if (fun c5 => ?_) (fun c5 => ?_)
  · refine zw_some ?_
    first | exact True.intro | ((try dsimp only); (repeat' apply And.intro) <;> first | with_reducible assumption | ((try clear hback_31); first | lia | grind [zu_at, zu_atL, zvn]))
  refine zw_zg32 28 (by decide) (by (try dsimp only); ((try clear hback_31); first | lia | grind [zu_at, zu_atL, zvn])) ?_
  refine zw_zg32 28 (by decide) (by (try dsimp only); ((try clear hback_31); first | lia | grind [zu_at, zu_atL, zvn])) ?_
  refine zw_if (fun c6 => ?_) (fun c6 => ?_)
  · refine zw_zg32 14 (by decide) (by (try dsimp only); ((try clear hback_31); first | lia | grind [zu_at, zu_atL, zvn])) ?_
    exact hback_31 _ (by (try dsimp only); (repeat' apply And.intro) <;> first | with_reducible assumption | ((try clear hback_31); first | lia | grind [zu_at, zu_atL, zvn])) (by (try dsimp only); ((try clear hback_31); first | lia | grind [zu_at, zu_atL, zvn])) (by (try dsimp only); ((try clear hback_31); first | lia | grind [zu_at, zu_atL, zvn]))
  refine zw_zg32 14 (by decide) (by (try dsimp only); ((try clear hback_31); first | lia | grind [zu_at, zu_atL, zvn])) ?_
  refine zw_zn1 ?_
  exact hback_31 _ (by (try dsimp only); (repeat' apply And.intro) <;> first | with_reducible assumption | ((try clear hback_31); first | lia | grind [zu_at, zu_atL, zvn])) (by (try dsimp only); ((try clear hback_31); first | lia | grind [zu_at, zu_atL, zvn])) (by (try dsimp only); ((try clear hback_31); first | lia | grind [zu_at, zu_atL, zvn]))
set_option maxHeartbeats 4000000 in
set_option maxRecDepth 100000 in
theorem sf_X12_isThere (v0_38 : Int32) (f1 : Nat → Int32) (h_v0_38 : 0 ≤ v0_38 ∧ v0_38 ≤ 1) (h_f1 : (∀ i : Nat, 0 ≤ f1 i ∧ f1 i ≤ 14)) : zw (fn_X12_isThere v0_38 f1) (fun r => 0 ≤ r ∧ r ≤ 1 ∧ r ≤ v0_38 ∧ (¬ r = 0 → 1 ≤ r ∧ (f1 (0 : Int32).toNatClampNeg) ≤ 14 ∧ 1 ≤ (f1 (0 : Int32).toNatClampNeg)) ∧ (r = 1 → 1 ≤ v0_38 ∧ v0_38 ≤ r ∧ (f1 (0 : Int32).toNatClampNeg) ≤ 14 ∧ 1 ≤ (f1 (0 : Int32).toNatClampNeg)) ∧ (¬ r = 1 → r ≤ 0)) := by
  unfold fn_X12_isThere
  refine zw_if (fun c1 => ?_) (fun c1 => ?_)
  · refine zw_some ?_
    first | exact True.intro | ((try dsimp only); (repeat' apply And.intro) <;> first | with_reducible assumption | first | lia | grind [zu_at, zu_atL, zvn])
  refine zw_if (fun c2 => ?_) (fun c2 => ?_)
  · refine zw_some ?_
    first | exact True.intro | ((try dsimp only); (repeat' apply And.intro) <;> first | with_reducible assumption | first | lia | grind [zu_at, zu_atL, zvn])
  refine zw_some ?_
  first | exact True.intro | ((try dsimp only); (repeat' apply And.intro) <;> first | with_reducible assumption | first | lia | grind [zu_at, zu_atL, zvn])
set_option maxHeartbeats 4000000 in
set_option maxRecDepth 100000 in
theorem sf_X12_cost (v0_38 : Int32) (f1 : Nat → Int32) (f2 : Nat → Int32) (f3 : Nat → Int32) (f4 : Nat → Int32) (f5 : Nat → Int32) (f6 : Nat → Int32) (f7 : Nat → Int32) (h_v0_38 : 0 ≤ v0_38 ∧ v0_38 ≤ 1) (h_f1 : (∀ i : Nat, 0 ≤ f1 i ∧ f1 i ≤ 14)) (h_f2 : (∀ i : Nat, 0 ≤ f2 i ∧ f2 i ≤ 3)) (h_f3 : (∀ i : Nat, 0 ≤ f3 i ∧ f3 i ≤ 3)) (h_f5 : (∀ i : Nat, (-1) ≤ f5 i ∧ f5 i ≤ 13)) (h_f6 : (∀ i : Nat, (-1) ≤ f6 i ∧ f6 i ≤ 13)) : zw (fn_X12_cost v0_38 f1 f2 f3 f4 f5 f6 f7) (fun r => (∀ i : Nat, 0 ≤ r.2 i ∧ r.2 i ≤ 3) ∧ (∀ i : Nat, r.2 i = f2 i ∨ r.2 i = f3 i)) := by
  unfold fn_X12_cost
  refine zw_zb0 (sf_X12_isThere v0_38 f1 (by first | with_reducible assumption | exact ⟨by with_reducible assumption, by with_reducible assumption⟩ | first | lia | grind [zu_at, zu_atL, zvn]) (by first | with_reducible assumption | exact ⟨by with_reducible assumption, by with_reducible assumption⟩ | first | lia | grind [zu_at, zu_atL, zvn])) (fun o_1 ho_1 => ?_)
  obtain ⟨ho_1_0, ho_1_1, ho_1_2, ho_1_3, ho_1_4, ho_1_5⟩ := ho_1
  refine zw_if (fun c1 => ?_) (fun c1 => ?_)
  · refine zw_some ?_
    first | exact True.intro | ((try dsimp only); (repeat' apply And.intro) <;> first | with_reducible assumption | first | lia | grind [zu_at, zu_atL, zvn])
  refine zw_zb0 (sf_X12_triesHand f1 f2 f3 (by first | with_reducible assumption | exact ⟨by with_reducible assumption, by with_reducible assumption⟩ | first | lia | grind [zu_at, zu_atL, zvn]) (by first | with_reducible assumption | exact ⟨by with_reducible assumption, by with_reducible assumption⟩ | first | lia | grind [zu_at, zu_atL, zvn]) (by first | with_reducible assumption | exact ⟨by with_reducible assumption, by with_reducible assumption⟩ | first | lia | grind [zu_at, zu_atL, zvn])) (fun o_6 ho_6 => ?_)
  obtain ⟨ho_6_0, ho_6_1⟩ := ho_6
  refine zw_zb0 (sf_X12_costTried f4 f1 f5 o_6 f6 f7 (by first | with_reducible assumption | exact ⟨by with_reducible assumption, by with_reducible assumption⟩ | first | lia | grind [zu_at, zu_atL, zvn]) (by first | with_reducible assumption | exact ⟨by with_reducible assumption, by with_reducible assumption⟩ | first | lia | grind [zu_at, zu_atL, zvn]) (by first | with_reducible assumption | exact ⟨by with_reducible assumption, by with_reducible assumption⟩ | first | lia | grind [zu_at, zu_atL, zvn]) (by first | with_reducible assumption | exact ⟨by with_reducible assumption, by with_reducible assumption⟩ | first | lia | grind [zu_at, zu_atL, zvn])) (fun o_10 ho_10 => ?_)
  refine zw_some ?_
  first | exact True.intro | ((try dsimp only); (repeat' apply And.intro) <;> first | with_reducible assumption | first | lia | grind [zu_at, zu_atL, zvn])
set_option maxHeartbeats 4000000 in
set_option maxRecDepth 100000 in
theorem sf_X12_casts (v0_38 : Int32) (f1 : Nat → Int32) (f2 : Nat → Int32) (f3 : Nat → Int32) (f4 : Nat → Int32) (f5 : Nat → Int32) (h_v0_38 : 0 ≤ v0_38 ∧ v0_38 ≤ 1) (h_f1 : (∀ i : Nat, 0 ≤ f1 i ∧ f1 i ≤ 14)) (h_f2 : (∀ i : Nat, 0 ≤ f2 i ∧ f2 i ≤ 3)) (h_f3 : (∀ i : Nat, 0 ≤ f3 i ∧ f3 i ≤ 3)) (h_f4 : (∀ i : Nat, (-1) ≤ f4 i ∧ f4 i ≤ 13)) (h_f5 : (∀ i : Nat, (-1) ≤ f5 i ∧ f5 i ≤ 13)) : zw (fn_X12_casts v0_38 f1 f2 f3 f4 f5) (fun r => (∀ i : Nat, 0 ≤ r.2 i ∧ r.2 i ≤ 3) ∧ (∀ i : Nat, r.2 i = f2 i ∨ r.2 i = f3 i)) := by
  unfold fn_X12_casts
  refine zw_zb0 (sf_X12_isThere v0_38 f1 (by first | with_reducible assumption | exact ⟨by with_reducible assumption, by with_reducible assumption⟩ | first | lia | grind [zu_at, zu_atL, zvn]) (by first | with_reducible assumption | exact ⟨by with_reducible assumption, by with_reducible assumption⟩ | first | lia | grind [zu_at, zu_atL, zvn])) (fun o_1 ho_1 => ?_)
  obtain ⟨ho_1_0, ho_1_1, ho_1_2, ho_1_3, ho_1_4, ho_1_5⟩ := ho_1
  refine zw_if (fun c1 => ?_) (fun c1 => ?_)
  · refine zw_some ?_
    first | exact True.intro | ((try dsimp only); (repeat' apply And.intro) <;> first | with_reducible assumption | first | lia | grind [zu_at, zu_atL, zvn])
  refine zw_zb0 (sf_X12_triesHand f1 f2 f3 (by first | with_reducible assumption | exact ⟨by with_reducible assumption, by with_reducible assumption⟩ | first | lia | grind [zu_at, zu_atL, zvn]) (by first | with_reducible assumption | exact ⟨by with_reducible assumption, by with_reducible assumption⟩ | first | lia | grind [zu_at, zu_atL, zvn]) (by first | with_reducible assumption | exact ⟨by with_reducible assumption, by with_reducible assumption⟩ | first | lia | grind [zu_at, zu_atL, zvn])) (fun o_6 ho_6 => ?_)
  obtain ⟨ho_6_0, ho_6_1⟩ := ho_6
  refine zw_zb0 (sf_X12_castsTried f1 f4 o_6 f5 (by first | with_reducible assumption | exact ⟨by with_reducible assumption, by with_reducible assumption⟩ | first | lia | grind [zu_at, zu_atL, zvn]) (by first | with_reducible assumption | exact ⟨by with_reducible assumption, by with_reducible assumption⟩ | first | lia | grind [zu_at, zu_atL, zvn]) (by first | with_reducible assumption | exact ⟨by with_reducible assumption, by with_reducible assumption⟩ | first | lia | grind [zu_at, zu_atL, zvn]) (by first | with_reducible assumption | exact ⟨by with_reducible assumption, by with_reducible assumption⟩ | first | lia | grind [zu_at, zu_atL, zvn])) (fun o_10 ho_10 => ?_)
  refine zw_some ?_
  first | exact True.intro | ((try dsimp only); (repeat' apply And.intro) <;> first | with_reducible assumption | first | lia | grind [zu_at, zu_atL, zvn])
set_option maxHeartbeats 4000000 in
set_option maxRecDepth 100000 in
theorem sf_X12_fails (v0_33 : Int32) (w0_34 : Int64) (v0_38 : Int32) (v0_41 : Int32) (v0_42 : Int32) (f1 : Nat → Int32) (f2 : Nat → Int32) (f3 : Nat → Int32) (f4 : Nat → Int32) (f5 : Nat → Int32) (f6 : Nat → Int32) (f7 : Nat → Int64) (f8 : Nat → Int64) (f9 : Nat → Int64) (f10 : Nat → Int64) (f11 : Nat → Int32) (f12 : Nat → Int64) (f13 : Nat → Int32) (f14 : Nat → Int32) (h_v0_38 : 0 ≤ v0_38 ∧ v0_38 ≤ 1) (h_f1 : (∀ i : Nat, 0 ≤ f1 i ∧ f1 i ≤ 14)) (h_f2 : (∀ i : Nat, 0 ≤ f2 i ∧ f2 i ≤ 3)) (h_f3 : (∀ i : Nat, 0 ≤ f3 i ∧ f3 i ≤ 3)) (h_f5 : (∀ i : Nat, (-1) ≤ f5 i ∧ f5 i ≤ 13)) (h_f6 : (∀ i : Nat, (-1) ≤ f6 i ∧ f6 i ≤ 13)) (hx_0 : f1 (0 : Int32).toNatClampNeg ≤ 0 ∨ (∀ i : Nat, 1 ≤ f11 (f2 i).toNatClampNeg) ∧ (∀ i : Nat, 1 ≤ f11 (f3 i).toNatClampNeg)) : zw (fn_X12_fails v0_33 w0_34 v0_38 v0_41 v0_42 f1 f2 f3 f4 f5 f6 f7 f8 f9 f10 f11 f12 f13 f14) (fun r => (∀ i : Nat, 0 ≤ r.2.2.2.2.1 i ∧ r.2.2.2.2.1 i ≤ 3) ∧ (∀ i : Nat, r.2.2.2.2.1 i = f2 i ∨ r.2.2.2.2.1 i = f3 i)) := by
  unfold fn_X12_fails
  refine zw_zb0 (sf_X12_isThere v0_38 f1 (by first | with_reducible assumption | exact ⟨by with_reducible assumption, by with_reducible assumption⟩ | first | lia | grind [zu_at, zu_atL, zvn]) (by first | with_reducible assumption | exact ⟨by with_reducible assumption, by with_reducible assumption⟩ | first | lia | grind [zu_at, zu_atL, zvn])) (fun o_1 ho_1 => ?_)
  obtain ⟨ho_1_0, ho_1_1, ho_1_2, ho_1_3, ho_1_4, ho_1_5⟩ := ho_1
  refine zw_if (fun c1 => ?_) (fun c1 => ?_)
  · refine zw_some ?_
    first | exact True.intro | ((try dsimp only); (repeat' apply And.intro) <;> first | with_reducible assumption | first | lia | grind [zu_at, zu_atL, zvn])
  refine zw_zb0 (sf_X12_handPasses w0_34 v0_38 v0_41 v0_42 f1 f2 f3 f4 f5 f6 f7 f8 f9 f10 f11 f12 f13 f14 (by first | with_reducible assumption | exact ⟨by with_reducible assumption, by with_reducible assumption⟩ | first | lia | grind [zu_at, zu_atL, zvn]) (by first | with_reducible assumption | exact ⟨by with_reducible assumption, by with_reducible assumption⟩ | first | lia | grind [zu_at, zu_atL, zvn]) (by first | with_reducible assumption | exact ⟨by with_reducible assumption, by with_reducible assumption⟩ | first | lia | grind [zu_at, zu_atL, zvn]) (by first | with_reducible assumption | exact ⟨by with_reducible assumption, by with_reducible assumption⟩ | first | lia | grind [zu_at, zu_atL, zvn]) (by first | with_reducible assumption | exact ⟨by with_reducible assumption, by with_reducible assumption⟩ | first | lia | grind [zu_at, zu_atL, zvn]) (by first | with_reducible assumption | exact ⟨by with_reducible assumption, by with_reducible assumption⟩ | first | lia | grind [zu_at, zu_atL, zvn]) (by first | with_reducible assumption | exact ⟨by with_reducible assumption, by with_reducible assumption⟩ | first | lia | grind [zu_at, zu_atL, zvn])) (fun o_6 ho_6 => ?_)
  obtain ⟨o_6_0, o_6_1, o_6_2, o_6_3, o_6_4, o_6_5, o_6_6, o_6_7⟩ := o_6
  try dsimp only at ho_6
  obtain ⟨ho_6_0, ho_6_1, ho_6_2, ho_6_3, ho_6_4, ho_6_5, ho_6_6, ho_6_7, ho_6_8, ho_6_9, ho_6_10⟩ := ho_6
  refine zw_if (fun c2 => ?_) (fun c2 => ?_)
  · refine zw_some ?_
    first | exact True.intro | ((try dsimp only); (repeat' apply And.intro) <;> first | with_reducible assumption | first | lia | grind [zu_at, zu_atL, zvn])
  refine zw_some ?_
  first | exact True.intro | ((try dsimp only); (repeat' apply And.intro) <;> first | with_reducible assumption | first | lia | grind [zu_at, zu_atL, zvn])
set_option maxHeartbeats 4000000 in
set_option maxRecDepth 100000 in
theorem sf_X12_why (v0_33 : Int32) (w0_34 : Int64) (v0_38 : Int32) (v0_41 : Int32) (v0_42 : Int32) (f1 : Nat → Int32) (f2 : Nat → Int32) (f3 : Nat → Int32) (f4 : Nat → Int32) (f5 : Nat → Int32) (f6 : Nat → Int32) (f7 : Nat → Int64) (f8 : Nat → Int64) (f9 : Nat → Int64) (f10 : Nat → Int64) (f11 : Nat → Int32) (f12 : Nat → Int64) (f13 : Nat → Int32) (f14 : Nat → Int32) (h_v0_38 : 0 ≤ v0_38 ∧ v0_38 ≤ 1) (h_f1 : (∀ i : Nat, 0 ≤ f1 i ∧ f1 i ≤ 14)) (h_f2 : (∀ i : Nat, 0 ≤ f2 i ∧ f2 i ≤ 3)) (h_f3 : (∀ i : Nat, 0 ≤ f3 i ∧ f3 i ≤ 3)) (h_f5 : (∀ i : Nat, (-1) ≤ f5 i ∧ f5 i ≤ 13)) (h_f6 : (∀ i : Nat, (-1) ≤ f6 i ∧ f6 i ≤ 13)) (hx_0 : f1 (0 : Int32).toNatClampNeg ≤ 0 ∨ (∀ i : Nat, 1 ≤ f11 (f2 i).toNatClampNeg) ∧ (∀ i : Nat, 1 ≤ f11 (f3 i).toNatClampNeg)) : zw (fn_X12_why v0_33 w0_34 v0_38 v0_41 v0_42 f1 f2 f3 f4 f5 f6 f7 f8 f9 f10 f11 f12 f13 f14) (fun r => (∀ i : Nat, 0 ≤ r.2.2.2.2.1 i ∧ r.2.2.2.2.1 i ≤ 3) ∧ (∀ i : Nat, r.2.2.2.2.1 i = f2 i ∨ r.2.2.2.2.1 i = f3 i)) := by
  unfold fn_X12_why
  refine zw_zb0 (sf_X12_isThere v0_38 f1 (by first | with_reducible assumption | exact ⟨by with_reducible assumption, by with_reducible assumption⟩ | first | lia | grind [zu_at, zu_atL, zvn]) (by first | with_reducible assumption | exact ⟨by with_reducible assumption, by with_reducible assumption⟩ | first | lia | grind [zu_at, zu_atL, zvn])) (fun o_1 ho_1 => ?_)
  obtain ⟨ho_1_0, ho_1_1, ho_1_2, ho_1_3, ho_1_4, ho_1_5⟩ := ho_1
  refine zw_if (fun c1 => ?_) (fun c1 => ?_)
  · refine zw_some ?_
    first | exact True.intro | ((try dsimp only); (repeat' apply And.intro) <;> first | with_reducible assumption | first | lia | grind [zu_at, zu_atL, zvn])
  refine zw_zb0 (sf_X12_handPasses w0_34 v0_38 v0_41 v0_42 f1 f2 f3 f4 f5 f6 f7 f8 f9 f10 f11 f12 f13 f14 (by first | with_reducible assumption | exact ⟨by with_reducible assumption, by with_reducible assumption⟩ | first | lia | grind [zu_at, zu_atL, zvn]) (by first | with_reducible assumption | exact ⟨by with_reducible assumption, by with_reducible assumption⟩ | first | lia | grind [zu_at, zu_atL, zvn]) (by first | with_reducible assumption | exact ⟨by with_reducible assumption, by with_reducible assumption⟩ | first | lia | grind [zu_at, zu_atL, zvn]) (by first | with_reducible assumption | exact ⟨by with_reducible assumption, by with_reducible assumption⟩ | first | lia | grind [zu_at, zu_atL, zvn]) (by first | with_reducible assumption | exact ⟨by with_reducible assumption, by with_reducible assumption⟩ | first | lia | grind [zu_at, zu_atL, zvn]) (by first | with_reducible assumption | exact ⟨by with_reducible assumption, by with_reducible assumption⟩ | first | lia | grind [zu_at, zu_atL, zvn]) (by first | with_reducible assumption | exact ⟨by with_reducible assumption, by with_reducible assumption⟩ | first | lia | grind [zu_at, zu_atL, zvn])) (fun o_6 ho_6 => ?_)
  obtain ⟨o_6_0, o_6_1, o_6_2, o_6_3, o_6_4, o_6_5, o_6_6, o_6_7⟩ := o_6
  try dsimp only at ho_6
  obtain ⟨ho_6_0, ho_6_1, ho_6_2, ho_6_3, ho_6_4, ho_6_5, ho_6_6, ho_6_7, ho_6_8, ho_6_9, ho_6_10⟩ := ho_6
  refine zw_if (fun c2 => ?_) (fun c2 => ?_)
  · refine zw_some ?_
    first | exact True.intro | ((try dsimp only); (repeat' apply And.intro) <;> first | with_reducible assumption | first | lia | grind [zu_at, zu_atL, zvn])
  refine zw_some ?_
  first | exact True.intro | ((try dsimp only); (repeat' apply And.intro) <;> first | with_reducible assumption | first | lia | grind [zu_at, zu_atL, zvn])
set_option maxHeartbeats 4000000 in
set_option maxRecDepth 100000 in
theorem sf_X12_error (p1 : Int32) (v0_33 : Int32) (w0_34 : Int64) (v0_38 : Int32) (v0_41 : Int32) (v0_42 : Int32) (f1 : Nat → Int32) (f2 : Nat → Int32) (f3 : Nat → Int32) (f4 : Nat → Int32) (f5 : Nat → Int32) (f6 : Nat → Int32) (f7 : Nat → Int64) (f8 : Nat → Int64) (f9 : Nat → Int64) (f10 : Nat → Int64) (f11 : Nat → Int32) (f12 : Nat → Int64) (f13 : Nat → Int32) (f14 : Nat → Int32) (h_v0_38 : 0 ≤ v0_38 ∧ v0_38 ≤ 1) (h_f1 : (∀ i : Nat, 0 ≤ f1 i ∧ f1 i ≤ 14)) (h_f2 : (∀ i : Nat, 0 ≤ f2 i ∧ f2 i ≤ 3)) (h_f3 : (∀ i : Nat, 0 ≤ f3 i ∧ f3 i ≤ 3)) (h_f5 : (∀ i : Nat, (-1) ≤ f5 i ∧ f5 i ≤ 13)) (h_f6 : (∀ i : Nat, (-1) ≤ f6 i ∧ f6 i ≤ 13)) (hx_0 : f1 (0 : Int32).toNatClampNeg ≤ 0 ∨ (∀ i : Nat, 1 ≤ f11 (f2 i).toNatClampNeg) ∧ (∀ i : Nat, 1 ≤ f11 (f3 i).toNatClampNeg)) : zw (fn_X12_error p1 v0_33 w0_34 v0_38 v0_41 v0_42 f1 f2 f3 f4 f5 f6 f7 f8 f9 f10 f11 f12 f13 f14) (fun r => (∀ i : Nat, 0 ≤ r.2.2.2.2.1 i ∧ r.2.2.2.2.1 i ≤ 3) ∧ (∀ i : Nat, r.2.2.2.2.1 i = f2 i ∨ r.2.2.2.2.1 i = f3 i)) := by
  unfold fn_X12_error
  refine zw_zb0 (sf_X12_isThere v0_38 f1 (by first | with_reducible assumption | exact ⟨by with_reducible assumption, by with_reducible assumption⟩ | first | lia | grind [zu_at, zu_atL, zvn]) (by first | with_reducible assumption | exact ⟨by with_reducible assumption, by with_reducible assumption⟩ | first | lia | grind [zu_at, zu_atL, zvn])) (fun o_1 ho_1 => ?_)
  obtain ⟨ho_1_0, ho_1_1, ho_1_2, ho_1_3, ho_1_4, ho_1_5⟩ := ho_1
  refine zw_if (fun c1 => ?_) (fun c1 => ?_)
  · refine zw_some ?_
    first | exact True.intro | ((try dsimp only); (repeat' apply And.intro) <;> first | with_reducible assumption | first | lia | grind [zu_at, zu_atL, zvn])
  refine zw_zb0 (sf_X12_isNumber p1 f1 (by first | with_reducible assumption | exact ⟨by with_reducible assumption, by with_reducible assumption⟩ | first | lia | grind [zu_at, zu_atL, zvn])) (fun o_6 ho_6 => ?_)
  obtain ⟨ho_6_0, ho_6_1, ho_6_2, ho_6_3, ho_6_4, ho_6_5⟩ := ho_6
  refine zw_if (fun c2 => ?_) (fun c2 => ?_)
  · refine zw_some ?_
    first | exact True.intro | ((try dsimp only); (repeat' apply And.intro) <;> first | with_reducible assumption | first | lia | grind [zu_at, zu_atL, zvn])
  refine zw_zb0 (sf_X12_handPasses w0_34 v0_38 v0_41 v0_42 f1 f2 f3 f4 f5 f6 f7 f8 f9 f10 f11 f12 f13 f14 (by first | with_reducible assumption | exact ⟨by with_reducible assumption, by with_reducible assumption⟩ | first | lia | grind [zu_at, zu_atL, zvn]) (by first | with_reducible assumption | exact ⟨by with_reducible assumption, by with_reducible assumption⟩ | first | lia | grind [zu_at, zu_atL, zvn]) (by first | with_reducible assumption | exact ⟨by with_reducible assumption, by with_reducible assumption⟩ | first | lia | grind [zu_at, zu_atL, zvn]) (by first | with_reducible assumption | exact ⟨by with_reducible assumption, by with_reducible assumption⟩ | first | lia | grind [zu_at, zu_atL, zvn]) (by first | with_reducible assumption | exact ⟨by with_reducible assumption, by with_reducible assumption⟩ | first | lia | grind [zu_at, zu_atL, zvn]) (by first | with_reducible assumption | exact ⟨by with_reducible assumption, by with_reducible assumption⟩ | first | lia | grind [zu_at, zu_atL, zvn]) (by first | with_reducible assumption | exact ⟨by with_reducible assumption, by with_reducible assumption⟩ | first | lia | grind [zu_at, zu_atL, zvn])) (fun o_11 ho_11 => ?_)
  obtain ⟨o_11_0, o_11_1, o_11_2, o_11_3, o_11_4, o_11_5, o_11_6, o_11_7⟩ := o_11
  try dsimp only at ho_11
  obtain ⟨ho_11_0, ho_11_1, ho_11_2, ho_11_3, ho_11_4, ho_11_5, ho_11_6, ho_11_7, ho_11_8, ho_11_9, ho_11_10⟩ := ho_11
  refine zw_if (fun c3 => ?_) (fun c3 => ?_)
  · refine zw_if (fun c4 => ?_) (fun c4 => ?_)
    · refine zw_some ?_
      first | exact True.intro | ((try dsimp only); (repeat' apply And.intro) <;> first | with_reducible assumption | first | lia | grind [zu_at, zu_atL, zvn])
    refine zw_zg32 14 (by decide) (by (try dsimp only); first | lia | grind [zu_at, zu_atL, zvn]) ?_
    refine zw_some ?_
    first | exact True.intro | ((try dsimp only); (repeat' apply And.intro) <;> first | with_reducible assumption | first | lia | grind [zu_at, zu_atL, zvn])
  refine zw_zg32 14 (by decide) (by (try dsimp only); first | lia | grind [zu_at, zu_atL, zvn]) ?_
  refine zw_some ?_
  first | exact True.intro | ((try dsimp only); (repeat' apply And.intro) <;> first | with_reducible assumption | first | lia | grind [zu_at, zu_atL, zvn])
set_option maxHeartbeats 4000000 in
set_option maxRecDepth 100000 in
theorem sf_X12_isAnswer (p1 : Int32) (f1 : Nat → Int32) (f2 : Nat → Int32) (h_f1 : (∀ i : Nat, 0 ≤ f1 i ∧ f1 i ≤ 14)) : zw (fn_X12_isAnswer p1 f1 f2) (fun r => 0 ≤ r ∧ r ≤ 1 ∧ r ≤ (f1 (0 : Int32).toNatClampNeg) ∧ (¬ r = 0 → 0 ≤ p1 ∧ 1 ≤ r ∧ p1 ≤ 13 ∧ p1 < (f1 (0 : Int32).toNatClampNeg)) ∧ (r = 1 → 0 ≤ p1 ∧ p1 ≤ 13 ∧ 1 ≤ (f1 (0 : Int32).toNatClampNeg) ∧ p1 < (f1 (0 : Int32).toNatClampNeg)) ∧ (¬ r = 1 → r ≤ 0)) := by
  unfold fn_X12_isAnswer
  refine zw_zb0 (sf_X12_isNumber p1 f1 (by first | with_reducible assumption | exact ⟨by with_reducible assumption, by with_reducible assumption⟩ | first | lia | grind [zu_at, zu_atL, zvn])) (fun o_1 ho_1 => ?_)
  obtain ⟨ho_1_0, ho_1_1, ho_1_2, ho_1_3, ho_1_4, ho_1_5⟩ := ho_1
  refine zw_if (fun c1 => ?_) (fun c1 => ?_)
  · refine zw_some ?_
    first | exact True.intro | ((try dsimp only); (repeat' apply And.intro) <;> first | with_reducible assumption | first | lia | grind [zu_at, zu_atL, zvn])
  refine zw_zg32 28 (by decide) (by (try dsimp only); first | lia | grind [zu_at, zu_atL, zvn]) ?_
  refine zw_if (fun c2 => ?_) (fun c2 => ?_)
  · refine zw_some ?_
    first | exact True.intro | ((try dsimp only); (repeat' apply And.intro) <;> first | with_reducible assumption | first | lia | grind [zu_at, zu_atL, zvn])
  refine zw_some ?_
  first | exact True.intro | ((try dsimp only); (repeat' apply And.intro) <;> first | with_reducible assumption | first | lia | grind [zu_at, zu_atL, zvn])
set_option maxHeartbeats 4000000 in
set_option maxRecDepth 100000 in
theorem sf_X12_slack (p1 : Int32) (v0_33 : Int32) (w0_34 : Int64) (v0_38 : Int32) (v0_41 : Int32) (v0_42 : Int32) (f1 : Nat → Int32) (f2 : Nat → Int32) (f3 : Nat → Int32) (f4 : Nat → Int32) (f5 : Nat → Int32) (f6 : Nat → Int32) (f7 : Nat → Int32) (f8 : Nat → Int64) (f9 : Nat → Int64) (f10 : Nat → Int64) (f11 : Nat → Int64) (f12 : Nat → Int32) (f13 : Nat → Int64) (f14 : Nat → Int32) (h_v0_38 : 0 ≤ v0_38 ∧ v0_38 ≤ 1) (h_f1 : (∀ i : Nat, 0 ≤ f1 i ∧ f1 i ≤ 14)) (h_f3 : (∀ i : Nat, 0 ≤ f3 i ∧ f3 i ≤ 3)) (h_f4 : (∀ i : Nat, 0 ≤ f4 i ∧ f4 i ≤ 3)) (h_f6 : (∀ i : Nat, (-1) ≤ f6 i ∧ f6 i ≤ 13)) (h_f7 : (∀ i : Nat, (-1) ≤ f7 i ∧ f7 i ≤ 13)) (hx_0 : f1 (0 : Int32).toNatClampNeg ≤ 0 ∨ (∀ i : Nat, 1 ≤ f12 (f3 i).toNatClampNeg) ∧ (∀ i : Nat, 1 ≤ f12 (f4 i).toNatClampNeg)) : zw (fn_X12_slack p1 v0_33 w0_34 v0_38 v0_41 v0_42 f1 f2 f3 f4 f5 f6 f7 f8 f9 f10 f11 f12 f13 f14) (fun r => (∀ i : Nat, 0 ≤ r.2.2.2.2.1 i ∧ r.2.2.2.2.1 i ≤ 3) ∧ (∀ i : Nat, r.2.2.2.2.1 i = f3 i ∨ r.2.2.2.2.1 i = f4 i)) := by
  unfold fn_X12_slack
  refine zw_zb0 (sf_X12_isAnswer p1 f1 f2 (by first | with_reducible assumption | exact ⟨by with_reducible assumption, by with_reducible assumption⟩ | first | lia | grind [zu_at, zu_atL, zvn])) (fun o_1 ho_1 => ?_)
  obtain ⟨ho_1_0, ho_1_1, ho_1_2, ho_1_3, ho_1_4, ho_1_5⟩ := ho_1
  refine zw_if (fun c1 => ?_) (fun c1 => ?_)
  · refine zw_some ?_
    first | exact True.intro | ((try dsimp only); (repeat' apply And.intro) <;> first | with_reducible assumption | first | lia | grind [zu_at, zu_atL, zvn])
  refine zw_zb0 (sf_X12_handPasses w0_34 v0_38 v0_41 v0_42 f1 f3 f4 f5 f6 f7 f8 f9 f10 f11 f12 f13 f14 f2 (by first | with_reducible assumption | exact ⟨by with_reducible assumption, by with_reducible assumption⟩ | first | lia | grind [zu_at, zu_atL, zvn]) (by first | with_reducible assumption | exact ⟨by with_reducible assumption, by with_reducible assumption⟩ | first | lia | grind [zu_at, zu_atL, zvn]) (by first | with_reducible assumption | exact ⟨by with_reducible assumption, by with_reducible assumption⟩ | first | lia | grind [zu_at, zu_atL, zvn]) (by first | with_reducible assumption | exact ⟨by with_reducible assumption, by with_reducible assumption⟩ | first | lia | grind [zu_at, zu_atL, zvn]) (by first | with_reducible assumption | exact ⟨by with_reducible assumption, by with_reducible assumption⟩ | first | lia | grind [zu_at, zu_atL, zvn]) (by first | with_reducible assumption | exact ⟨by with_reducible assumption, by with_reducible assumption⟩ | first | lia | grind [zu_at, zu_atL, zvn]) (by first | with_reducible assumption | exact ⟨by with_reducible assumption, by with_reducible assumption⟩ | first | lia | grind [zu_at, zu_atL, zvn])) (fun o_6 ho_6 => ?_)
  obtain ⟨o_6_0, o_6_1, o_6_2, o_6_3, o_6_4, o_6_5, o_6_6, o_6_7⟩ := o_6
  try dsimp only at ho_6
  obtain ⟨ho_6_0, ho_6_1, ho_6_2, ho_6_3, ho_6_4, ho_6_5, ho_6_6, ho_6_7, ho_6_8, ho_6_9, ho_6_10⟩ := ho_6
  refine zw_if (fun c2 => ?_) (fun c2 => ?_)
  · refine zw_some ?_
    first | exact True.intro | ((try dsimp only); (repeat' apply And.intro) <;> first | with_reducible assumption | first | lia | grind [zu_at, zu_atL, zvn])
  refine zw_zg32 28 (by decide) (by (try dsimp only); first | lia | grind [zu_at, zu_atL, zvn]) ?_
  refine zw_zg32 14 (by decide) (by (try dsimp only); first | lia | grind [zu_at, zu_atL, zvn]) ?_
  refine zw_some ?_
  first | exact True.intro | ((try dsimp only); (repeat' apply And.intro) <;> first | with_reducible assumption | first | lia | grind [zu_at, zu_atL, zvn])
set_option maxHeartbeats 4000000 in
set_option maxRecDepth 100000 in
theorem sf_X12_widest (p1 : Int32) (v0_33 : Int32) (w0_34 : Int64) (v0_38 : Int32) (v0_41 : Int32) (v0_42 : Int32) (f1 : Nat → Int32) (f2 : Nat → Int32) (f3 : Nat → Int32) (f4 : Nat → Int32) (f5 : Nat → Int32) (f6 : Nat → Int32) (f7 : Nat → Int64) (f8 : Nat → Int64) (f9 : Nat → Int64) (f10 : Nat → Int64) (f11 : Nat → Int32) (f12 : Nat → Int64) (f13 : Nat → Int32) (f14 : Nat → Int32) (h_v0_38 : 0 ≤ v0_38 ∧ v0_38 ≤ 1) (h_f1 : (∀ i : Nat, 0 ≤ f1 i ∧ f1 i ≤ 14)) (h_f3 : (∀ i : Nat, 0 ≤ f3 i ∧ f3 i ≤ 3)) (h_f4 : (∀ i : Nat, 0 ≤ f4 i ∧ f4 i ≤ 3)) (h_f5 : (∀ i : Nat, (-1) ≤ f5 i ∧ f5 i ≤ 13)) (h_f6 : (∀ i : Nat, (-1) ≤ f6 i ∧ f6 i ≤ 13)) (hx_0 : f1 (0 : Int32).toNatClampNeg ≤ 0 ∨ (∀ i : Nat, 1 ≤ f11 (f3 i).toNatClampNeg) ∧ (∀ i : Nat, 1 ≤ f11 (f4 i).toNatClampNeg)) : zw (fn_X12_widest p1 v0_33 w0_34 v0_38 v0_41 v0_42 f1 f2 f3 f4 f5 f6 f7 f8 f9 f10 f11 f12 f13 f14) (fun r => (∀ i : Nat, 0 ≤ r.2.2.2.2.2.1 i ∧ r.2.2.2.2.2.1 i ≤ 3) ∧ (-1) ≤ r.1 ∧ r.1 ≤ 10000000 ∧ (∀ i : Nat, r.2.2.2.2.2.1 i = f3 i ∨ r.2.2.2.2.2.1 i = f4 i)) := by
  unfold fn_X12_widest
  refine zw_zb0 (sf_X12_isNumber p1 f1 (by first | with_reducible assumption | exact ⟨by with_reducible assumption, by with_reducible assumption⟩ | first | lia | grind [zu_at, zu_atL, zvn])) (fun o_1 ho_1 => ?_)
  obtain ⟨ho_1_0, ho_1_1, ho_1_2, ho_1_3, ho_1_4, ho_1_5⟩ := ho_1
  refine zw_if (fun c1 => ?_) (fun c1 => ?_)
  · refine zw_some ?_
    first | exact True.intro | ((try dsimp only); (repeat' apply And.intro) <;> first | with_reducible assumption | first | lia | grind [zu_at, zu_atL, zvn])
  refine zw_zg32 28 (by decide) (by (try dsimp only); first | lia | grind [zu_at, zu_atL, zvn]) ?_
  refine zw_if (fun c2 => ?_) (fun c2 => ?_)
  · refine zw_zb0 (sf_X12_handPasses w0_34 v0_38 v0_41 v0_42 f1 f3 f4 f2 f5 f6 f7 f8 f9 f10 f11 f12 f13 f14 (by first | with_reducible assumption | exact ⟨by with_reducible assumption, by with_reducible assumption⟩ | first | lia | grind [zu_at, zu_atL, zvn]) (by first | with_reducible assumption | exact ⟨by with_reducible assumption, by with_reducible assumption⟩ | first | lia | grind [zu_at, zu_atL, zvn]) (by first | with_reducible assumption | exact ⟨by with_reducible assumption, by with_reducible assumption⟩ | first | lia | grind [zu_at, zu_atL, zvn]) (by first | with_reducible assumption | exact ⟨by with_reducible assumption, by with_reducible assumption⟩ | first | lia | grind [zu_at, zu_atL, zvn]) (by first | with_reducible assumption | exact ⟨by with_reducible assumption, by with_reducible assumption⟩ | first | lia | grind [zu_at, zu_atL, zvn]) (by first | with_reducible assumption | exact ⟨by with_reducible assumption, by with_reducible assumption⟩ | first | lia | grind [zu_at, zu_atL, zvn]) (by first | with_reducible assumption | exact ⟨by with_reducible assumption, by with_reducible assumption⟩ | first | lia | grind [zu_at, zu_atL, zvn])) (fun o_8 ho_8 => ?_)
    obtain ⟨o_8_0, o_8_1, o_8_2, o_8_3, o_8_4, o_8_5, o_8_6, o_8_7⟩ := o_8
    try dsimp only at ho_8
    obtain ⟨ho_8_0, ho_8_1, ho_8_2, ho_8_3, ho_8_4, ho_8_5, ho_8_6, ho_8_7, ho_8_8, ho_8_9, ho_8_10⟩ := ho_8
    refine zw_if (fun c3 => ?_) (fun c3 => ?_)
    · refine zw_some ?_
      first | exact True.intro | ((try dsimp only); (repeat' apply And.intro) <;> first | with_reducible assumption | first | lia | grind [zu_at, zu_atL, zvn])
    refine zw_zlH (fun s_13 => s_13.1 ≤ s_13.2.1 ∧ 0 ≤ s_13.1 ∧ s_13.1 ≤ 10000000 ∧ 0 ≤ s_13.2.1 ∧ s_13.2.1 ≤ 10000000 ∧ (-2) ≤ s_13.2.2.2.1 ∧ s_13.2.2.2.1 ≤ 13 ∧ 0 ≤ s_13.2.2.2.2.1 ∧ s_13.2.2.2.2.1 ≤ 2 ∧ s_13.2.2.2.2.1 ≤ s_13.2.2.2.1 + 2) (fun s_13 => s_13.2.1 - s_13.1) (by (try dsimp only); (repeat' apply And.intro) <;> first | with_reducible assumption | first | lia | grind [zu_at, zu_atL, zvn]) (fun s_13 H9 => by (try dsimp only at H9 ⊢); grind) (fun s_13 back_13 Hback_13 hback_13 => ?_)
    obtain ⟨s_13_0, s_13_1, s_13_2, s_13_3, s_13_4, s_13_5, s_13_6, s_13_7⟩ := s_13
    try dsimp only at Hback_13 hback_13
    obtain ⟨Hback_13_0, Hback_13_1, Hback_13_2, Hback_13_3, Hback_13_4, Hback_13_5, Hback_13_6, Hback_13_7, Hback_13_8, Hback_13_9⟩ := Hback_13
    refine zw_if (fun c4 => ?_) (fun c4 => ?_)
    · refine zw_some ?_
      first | exact True.intro | ((try dsimp only); (repeat' apply And.intro) <;> first | with_reducible assumption | ((try clear hback_13); first | lia | grind [zu_at, zu_atL, zvn]))
    have hmid := zhalf2 (s_13_1 - s_13_0 + 1) (by lia) (by lia)
    refine zw_zb0 (sf_X12_passes p1 ((s_13_0 + (((s_13_1 - s_13_0) + 1) / 2)).toInt64) f1 f2 f5 f6 s_13_5 f8 f9 s_13_6 o_8_4 f11 s_13_7 f13 f14 (by first | with_reducible assumption | exact ⟨by with_reducible assumption, by with_reducible assumption⟩ | ((try clear hback_13); first | lia | grind [zu_at, zu_atL, zvn])) (by first | with_reducible assumption | exact ⟨by with_reducible assumption, by with_reducible assumption⟩ | ((try clear hback_13); first | lia | grind [zu_at, zu_atL, zvn])) (by first | with_reducible assumption | exact ⟨by with_reducible assumption, by with_reducible assumption⟩ | ((try clear hback_13); first | lia | grind [zu_at, zu_atL, zvn])) (by first | with_reducible assumption | exact ⟨by with_reducible assumption, by with_reducible assumption⟩ | ((try clear hback_13); first | lia | grind [zu_at, zu_atL, zvn])) (by first | with_reducible assumption | exact ⟨by with_reducible assumption, by with_reducible assumption⟩ | ((try clear hback_13); first | lia | grind [zu_at, zu_atL, zvn]))) (fun o_15 ho_15 => ?_)
    obtain ⟨o_15_0, o_15_1, o_15_2, o_15_3, o_15_4, o_15_5⟩ := o_15
    try dsimp only at ho_15
    obtain ⟨ho_15_0, ho_15_1, ho_15_2, ho_15_3, ho_15_4, ho_15_5, ho_15_6, ho_15_7, ho_15_8, ho_15_9, ho_15_10, ho_15_11, ho_15_12⟩ := ho_15
    refine zw_if (fun c5 => ?_) (fun c5 => ?_)
    · exact hback_13 _ (by (try dsimp only); (repeat' apply And.intro) <;> first | with_reducible assumption | ((try clear hback_13); first | lia | grind [zu_at, zu_atL, zvn])) (by (try dsimp only); ((try clear hback_13); first | lia | grind [zu_at, zu_atL, zvn])) (by (try dsimp only); ((try clear hback_13); first | lia | grind [zu_at, zu_atL, zvn]))
    exact hback_13 _ (by (try dsimp only); (repeat' apply And.intro) <;> first | with_reducible assumption | ((try clear hback_13); first | lia | grind [zu_at, zu_atL, zvn])) (by (try dsimp only); ((try clear hback_13); first | lia | grind [zu_at, zu_atL, zvn])) (by (try dsimp only); ((try clear hback_13); first | lia | grind [zu_at, zu_atL, zvn]))
  refine zw_some ?_
  first | exact True.intro | ((try dsimp only); (repeat' apply And.intro) <;> first | with_reducible assumption | ((try clear hback_13); first | lia | grind [zu_at, zu_atL, zvn]))
set_option maxHeartbeats 4000000 in
set_option maxRecDepth 100000 in
theorem sf_X12_finest (f1 : Nat → Int32) (f2 : Nat → Int32) (h_f1 : (∀ i : Nat, 0 ≤ f1 i ∧ f1 i ≤ 4)) (hr_0 : 1 ≤ (f1 (0 : Int32).toNatClampNeg)) (hx_0 : (∀ x : Int32, 0 ≤ x → x < f1 (0 : Int32).toNatClampNeg → 1 ≤ f2 x.toNatClampNeg)) : zw (fn_X12_finest f1 f2) (fun r => 0 ≤ r ∧ r ≤ 3 ∧ r < (f1 (0 : Int32).toNatClampNeg) ∧ (f1 (0 : Int32).toNatClampNeg) ≤ r + 4) := by
  unfold fn_X12_finest
  refine zw_zl32 (fun s_1 => 0 ≤ s_1.1 ∧ 1 ≤ s_1.2 ∧ s_1.1 ≤ 3 ∧ s_1.2 ≤ 4 ∧ s_1.1 < s_1.2 ∧ s_1.1 < (f1 (0 : Int32).toNatClampNeg) ∧ s_1.2 ≤ (f1 (0 : Int32).toNatClampNeg)) (fun s_1 => 4 - s_1.2) (by (try dsimp only); (repeat' apply And.intro) <;> first | with_reducible assumption | first | lia | grind [zu_at, zu_atL, zvn]) (by (try dsimp only); first | lia | grind [zu_at, zu_atL, zvn]) (fun s_1 back_1 Hback_1 hback_1 => ?_)
  obtain ⟨s_1_0, s_1_1⟩ := s_1
  try dsimp only at Hback_1 hback_1
  obtain ⟨Hback_1_0, Hback_1_1, Hback_1_2, Hback_1_3, Hback_1_4, Hback_1_5, Hback_1_6⟩ := Hback_1
  refine zw_if (fun c1 => ?_) (fun c1 => ?_)
  · refine zw_some ?_
    first | exact True.intro | ((try dsimp only); (repeat' apply And.intro) <;> first | with_reducible assumption | ((try clear hback_1); first | lia | grind [zu_at, zu_atL, zvn]))
  refine zw_zg32 8 (by decide) (by (try dsimp only); ((try clear hback_1); first | lia | grind [zu_at, zu_atL, zvn])) ?_
  refine zw_zg32 8 (by decide) (by (try dsimp only); ((try clear hback_1); first | lia | grind [zu_at, zu_atL, zvn])) ?_
  refine zw_if (fun c2 => ?_) (fun c2 => ?_)
  · exact hback_1 _ (by (try dsimp only); (repeat' apply And.intro) <;> first | with_reducible assumption | ((try clear hback_1); first | lia | grind [zu_at, zu_atL, zvn])) (by (try dsimp only); ((try clear hback_1); first | lia | grind [zu_at, zu_atL, zvn])) (by (try dsimp only); ((try clear hback_1); first | lia | grind [zu_at, zu_atL, zvn]))
  exact hback_1 _ (by (try dsimp only); (repeat' apply And.intro) <;> first | with_reducible assumption | ((try clear hback_1); first | lia | grind [zu_at, zu_atL, zvn])) (by (try dsimp only); ((try clear hback_1); first | lia | grind [zu_at, zu_atL, zvn])) (by (try dsimp only); ((try clear hback_1); first | lia | grind [zu_at, zu_atL, zvn]))
set_option maxHeartbeats 4000000 in
set_option maxRecDepth 100000 in
theorem sf_X12_blame (p1 : Int32) (p2 : Int32) (v0_33 : Int32) (w0_34 : Int64) (v0_38 : Int32) (v0_41 : Int32) (v0_42 : Int32) (f1 : Nat → Int32) (f2 : Nat → Int32) (f3 : Nat → Int32) (f4 : Nat → Int32) (f5 : Nat → Int32) (f6 : Nat → Int32) (f7 : Nat → Int32) (f8 : Nat → Int32) (f9 : Nat → Int32) (f10 : Nat → Int64) (f11 : Nat → Int64) (f12 : Nat → Int64) (f13 : Nat → Int64) (f14 : Nat → Int32) (f15 : Nat → Int64) (f16 : Nat → Int32) (f17 : Nat → Int32) (h_v0_38 : 0 ≤ v0_38 ∧ v0_38 ≤ 1) (h_f1 : (∀ i : Nat, 0 ≤ f1 i ∧ f1 i ≤ 14)) (h_f3 : (∀ i : Nat, 0 ≤ f3 i ∧ f3 i ≤ 13)) (h_f4 : (∀ i : Nat, (-1) ≤ f4 i ∧ f4 i ≤ 3)) (h_f5 : (∀ i : Nat, 0 ≤ f5 i ∧ f5 i ≤ 3)) (h_f6 : (∀ i : Nat, 0 ≤ f6 i ∧ f6 i ≤ 3)) (h_f8 : (∀ i : Nat, (-1) ≤ f8 i ∧ f8 i ≤ 13)) (h_f9 : (∀ i : Nat, (-1) ≤ f9 i ∧ f9 i ≤ 13)) (h_f17 : (∀ i : Nat, 0 ≤ f17 i ∧ f17 i ≤ 4)) (hx_0 : f1 (0 : Int32).toNatClampNeg ≤ 0 ∨ 1 ≤ f17 (0 : Int32).toNatClampNeg ∧ (∀ x : Int32, 0 ≤ x → x < f17 (0 : Int32).toNatClampNeg → 1 ≤ f14 x.toNatClampNeg) ∧ (∀ i : Nat, 1 ≤ f14 (f5 i).toNatClampNeg) ∧ (∀ i : Nat, 1 ≤ f14 (f6 i).toNatClampNeg)) : zw (fn_X12_blame p1 p2 v0_33 w0_34 v0_38 v0_41 v0_42 f1 f2 f3 f4 f5 f6 f7 f8 f9 f10 f11 f12 f13 f14 f15 f16 f17) (fun r => (∀ i : Nat, 0 ≤ r.2.2.2.2.1 i ∧ r.2.2.2.2.1 i ≤ 3) ∧ (∀ i : Nat, r.2.2.2.2.1 i = f5 i ∨ r.2.2.2.2.1 i = f6 i ∨ 0 ≤ r.2.2.2.2.1 i ∧ r.2.2.2.2.1 i < f17 (0 : Int32).toNatClampNeg)) := by
  unfold fn_X12_blame
  refine zw_zb0 (sf_X12_isAnswer p1 f1 f2 (by first | with_reducible assumption | exact ⟨by with_reducible assumption, by with_reducible assumption⟩ | first | lia | grind [zu_at, zu_atL, zvn])) (fun o_1 ho_1 => ?_)
  obtain ⟨ho_1_0, ho_1_1, ho_1_2, ho_1_3, ho_1_4, ho_1_5⟩ := ho_1
  refine zw_if (fun c1 => ?_) (fun c1 => ?_)
  · refine zw_some ?_
    first | exact True.intro | ((try dsimp only); (repeat' apply And.intro) <;> first | with_reducible assumption | first | lia | grind [zu_at, zu_atL, zvn])
  refine zw_zb0 (sf_X12_isNumber p2 f1 (by first | with_reducible assumption | exact ⟨by with_reducible assumption, by with_reducible assumption⟩ | first | lia | grind [zu_at, zu_atL, zvn])) (fun o_6 ho_6 => ?_)
  obtain ⟨ho_6_0, ho_6_1, ho_6_2, ho_6_3, ho_6_4, ho_6_5⟩ := ho_6
  refine zw_if (fun c2 => ?_) (fun c2 => ?_)
  · refine zw_some ?_
    first | exact True.intro | ((try dsimp only); (repeat' apply And.intro) <;> first | with_reducible assumption | first | lia | grind [zu_at, zu_atL, zvn])
  refine zw_zg32 28 (by decide) (by (try dsimp only); first | lia | grind [zu_at, zu_atL, zvn]) ?_
  refine zw_zb0 (sf_X12_isFree (f3 p2.toNatClampNeg) f1 f3 f4 (by first | with_reducible assumption | exact ⟨by with_reducible assumption, by with_reducible assumption⟩ | first | lia | grind [zu_at, zu_atL, zvn]) (by first | with_reducible assumption | exact ⟨by with_reducible assumption, by with_reducible assumption⟩ | first | lia | grind [zu_at, zu_atL, zvn]) (by first | with_reducible assumption | exact ⟨by with_reducible assumption, by with_reducible assumption⟩ | first | lia | grind [zu_at, zu_atL, zvn])) (fun o_12 ho_12 => ?_)
  obtain ⟨ho_12_0, ho_12_1, ho_12_2, ho_12_3, ho_12_4, ho_12_5⟩ := ho_12
  refine zw_if (fun c3 => ?_) (fun c3 => ?_)
  · refine zw_some ?_
    first | exact True.intro | ((try dsimp only); (repeat' apply And.intro) <;> first | with_reducible assumption | first | lia | grind [zu_at, zu_atL, zvn])
  refine zw_zb0 (sf_X12_handPasses w0_34 v0_38 v0_41 v0_42 f1 f5 f6 f7 f8 f9 f10 f11 f12 f13 f14 f15 f16 f2 (by first | with_reducible assumption | exact ⟨by with_reducible assumption, by with_reducible assumption⟩ | first | lia | grind [zu_at, zu_atL, zvn]) (by first | with_reducible assumption | exact ⟨by with_reducible assumption, by with_reducible assumption⟩ | first | lia | grind [zu_at, zu_atL, zvn]) (by first | with_reducible assumption | exact ⟨by with_reducible assumption, by with_reducible assumption⟩ | first | lia | grind [zu_at, zu_atL, zvn]) (by first | with_reducible assumption | exact ⟨by with_reducible assumption, by with_reducible assumption⟩ | first | lia | grind [zu_at, zu_atL, zvn]) (by first | with_reducible assumption | exact ⟨by with_reducible assumption, by with_reducible assumption⟩ | first | lia | grind [zu_at, zu_atL, zvn]) (by first | with_reducible assumption | exact ⟨by with_reducible assumption, by with_reducible assumption⟩ | first | lia | grind [zu_at, zu_atL, zvn]) (by first | with_reducible assumption | exact ⟨by with_reducible assumption, by with_reducible assumption⟩ | first | lia | grind [zu_at, zu_atL, zvn])) (fun o_17 ho_17 => ?_)
  obtain ⟨o_17_0, o_17_1, o_17_2, o_17_3, o_17_4, o_17_5, o_17_6, o_17_7⟩ := o_17
  try dsimp only at ho_17
  obtain ⟨ho_17_0, ho_17_1, ho_17_2, ho_17_3, ho_17_4, ho_17_5, ho_17_6, ho_17_7, ho_17_8, ho_17_9, ho_17_10⟩ := ho_17
  refine zw_if (fun c4 => ?_) (fun c4 => ?_)
  · refine zw_some ?_
    first | exact True.intro | ((try dsimp only); (repeat' apply And.intro) <;> first | with_reducible assumption | first | lia | grind [zu_at, zu_atL, zvn])
  refine zw_zg32 14 (by decide) (by (try dsimp only); first | lia | grind [zu_at, zu_atL, zvn]) ?_
  refine zw_zb0 (sf_X12_finest f17 f14 (by first | with_reducible assumption | exact ⟨by with_reducible assumption, by with_reducible assumption⟩ | first | lia | grind [zu_at, zu_atL, zvn]) (by first | with_reducible assumption | exact ⟨by with_reducible assumption, by with_reducible assumption⟩ | first | lia | grind [zu_at, zu_atL, zvn]) (by first | with_reducible assumption | exact ⟨by with_reducible assumption, by with_reducible assumption⟩ | first | lia | grind [zu_at, zu_atL, zvn])) (fun o_23 ho_23 => ?_)
  obtain ⟨ho_23_0, ho_23_1, ho_23_2, ho_23_3⟩ := ho_23
  refine zw_zb0 (sf_X12_triesGroup (f3 p2.toNatClampNeg) o_23 f1 f3 o_17_4 (by first | with_reducible assumption | exact ⟨by with_reducible assumption, by with_reducible assumption⟩ | first | lia | grind [zu_at, zu_atL, zvn]) (by first | with_reducible assumption | exact ⟨by with_reducible assumption, by with_reducible assumption⟩ | first | lia | grind [zu_at, zu_atL, zvn]) (by first | with_reducible assumption | exact ⟨by with_reducible assumption, by with_reducible assumption⟩ | first | lia | grind [zu_at, zu_atL, zvn]) (by first | with_reducible assumption | exact ⟨by with_reducible assumption, by with_reducible assumption⟩ | first | lia | grind [zu_at, zu_atL, zvn])) (fun o_27 ho_27 => ?_)
  obtain ⟨ho_27_0, ho_27_1⟩ := ho_27
  refine zw_zb0 (sf_X12_passes o_17_1 w0_34 f1 f7 f8 f9 o_17_5 f11 f12 o_17_6 o_27 f14 o_17_7 f16 f2 (by first | with_reducible assumption | exact ⟨by with_reducible assumption, by with_reducible assumption⟩ | first | lia | grind [zu_at, zu_atL, zvn]) (by first | with_reducible assumption | exact ⟨by with_reducible assumption, by with_reducible assumption⟩ | first | lia | grind [zu_at, zu_atL, zvn]) (by first | with_reducible assumption | exact ⟨by with_reducible assumption, by with_reducible assumption⟩ | first | lia | grind [zu_at, zu_atL, zvn]) (by first | with_reducible assumption | exact ⟨by with_reducible assumption, by with_reducible assumption⟩ | first | lia | grind [zu_at, zu_atL, zvn]) (by first | with_reducible assumption | exact ⟨by with_reducible assumption, by with_reducible assumption⟩ | first | lia | grind [zu_at, zu_atL, zvn])) (fun o_31 ho_31 => ?_)
  obtain ⟨o_31_0, o_31_1, o_31_2, o_31_3, o_31_4, o_31_5⟩ := o_31
  try dsimp only at ho_31
  obtain ⟨ho_31_0, ho_31_1, ho_31_2, ho_31_3, ho_31_4, ho_31_5, ho_31_6, ho_31_7, ho_31_8, ho_31_9, ho_31_10, ho_31_11, ho_31_12⟩ := ho_31
  refine zw_if (fun c5 => ?_) (fun c5 => ?_)
  · refine zw_some ?_
    first | exact True.intro | ((try dsimp only); (repeat' apply And.intro) <;> first | with_reducible assumption | first | lia | grind [zu_at, zu_atL, zvn])
  refine zw_zn (fun x_36 ex_36 => ?_)
  refine zw_some ?_
  first | exact True.intro | ((try dsimp only); (repeat' apply And.intro) <;> first | with_reducible assumption | first | lia | grind [zu_at, zu_atL, zvn])
set_option maxHeartbeats 4000000 in
set_option maxRecDepth 100000 in
theorem sf_X12_canSearch (v0_38 : Int32) (f1 : Nat → Int32) (f2 : Nat → Int32) (f3 : Nat → Int32) (f4 : Nat → Int32) (h_v0_38 : 0 ≤ v0_38 ∧ v0_38 ≤ 1) (h_f1 : (∀ i : Nat, 0 ≤ f1 i ∧ f1 i ≤ 14)) (h_f2 : (∀ i : Nat, 0 ≤ f2 i ∧ f2 i ≤ 13)) (h_f3 : (∀ i : Nat, (-1) ≤ f3 i ∧ f3 i ≤ 3)) (h_f4 : (∀ i : Nat, 0 ≤ f4 i ∧ f4 i ≤ 13)) : zw (fn_X12_canSearch v0_38 f1 f2 f3 f4) (fun r => 0 ≤ r.1 ∧ r.1 ≤ 1 ∧ 0 ≤ r.2.1 ∧ r.2.1 ≤ 14 ∧ (∀ i : Nat, 0 ≤ r.2.2.2 i ∧ r.2.2.2 i ≤ 13) ∧ (-1) ≤ r.2.2.1 ∧ r.2.2.1 ≤ (-1) ∧ r.1 ≤ v0_38 ∧ r.1 ≤ (f1 (0 : Int32).toNatClampNeg) ∧ (r.1 = 0 → r.1 ≤ r.2.1 ∧ r.1 ≤ r.2.2.1 + 1) ∧ (¬ r.1 = 0 → 1 ≤ r.1 ∧ r.2.1 ≤ 5) ∧ (r.1 = 1 → r.2.1 ≤ 5 ∧ 1 ≤ v0_38 ∧ v0_38 ≤ r.1) ∧ (¬ r.1 = 1 → r.1 ≤ 0)) := by
  unfold fn_X12_canSearch
  refine zw_zb0 (sf_X12_laysFree f1 f2 f3 f4 (by first | with_reducible assumption | exact ⟨by with_reducible assumption, by with_reducible assumption⟩ | first | lia | grind [zu_at, zu_atL, zvn]) (by first | with_reducible assumption | exact ⟨by with_reducible assumption, by with_reducible assumption⟩ | first | lia | grind [zu_at, zu_atL, zvn]) (by first | with_reducible assumption | exact ⟨by with_reducible assumption, by with_reducible assumption⟩ | first | lia | grind [zu_at, zu_atL, zvn]) (by first | with_reducible assumption | exact ⟨by with_reducible assumption, by with_reducible assumption⟩ | first | lia | grind [zu_at, zu_atL, zvn])) (fun o_1 ho_1 => ?_)
  obtain ⟨o_1_0, o_1_1⟩ := o_1
  try dsimp only at ho_1
  obtain ⟨ho_1_0, ho_1_1, ho_1_2⟩ := ho_1
  refine zw_if (fun c1 => ?_) (fun c1 => ?_)
  · refine zw_some ?_
    first | exact True.intro | ((try dsimp only); (repeat' apply And.intro) <;> first | with_reducible assumption | first | lia | grind [zu_at, zu_atL, zvn])
  refine zw_if (fun c2 => ?_) (fun c2 => ?_)
  · refine zw_some ?_
    first | exact True.intro | ((try dsimp only); (repeat' apply And.intro) <;> first | with_reducible assumption | first | lia | grind [zu_at, zu_atL, zvn])
  refine zw_if (fun c3 => ?_) (fun c3 => ?_)
  · refine zw_some ?_
    first | exact True.intro | ((try dsimp only); (repeat' apply And.intro) <;> first | with_reducible assumption | first | lia | grind [zu_at, zu_atL, zvn])
  refine zw_some ?_
  first | exact True.intro | ((try dsimp only); (repeat' apply And.intro) <;> first | with_reducible assumption | first | lia | grind [zu_at, zu_atL, zvn])
set_option maxHeartbeats 4000000 in
set_option maxRecDepth 100000 in
theorem sf_X12_allChoices (v0_30 : Int32) (f1 : Nat → Int32) (h_v0_30 : 0 ≤ v0_30 ∧ v0_30 ≤ 5) (h_f1 : (∀ i : Nat, 0 ≤ f1 i ∧ f1 i ≤ 4)) : zw (fn_X12_allChoices v0_30 f1) (fun r => 0 ≤ r ∧ r ≤ 1024) := by
  unfold fn_X12_allChoices
  refine zw_zl32 (fun s_1 => zPow s_1.2 s_1.1 ∧ 0 ≤ s_1.1 ∧ 0 ≤ s_1.2 ∧ s_1.1 ≤ 1024 ∧ s_1.2 ≤ 5 ∧ s_1.2 ≤ v0_30) (fun s_1 => 5 - s_1.2) (by (try dsimp only); (repeat' apply And.intro) <;> first | with_reducible assumption | first | lia | grind [zu_at, zu_atL, zvn, zPow_0]) (by (try dsimp only); first | lia | grind [zu_at, zu_atL, zvn, zPow_0]) (fun s_1 back_1 Hback_1 hback_1 => ?_)
  obtain ⟨s_1_0, s_1_1⟩ := s_1
  try dsimp only at Hback_1 hback_1
  obtain ⟨Hback_1_0, Hback_1_1, Hback_1_2, Hback_1_3, Hback_1_4, Hback_1_5⟩ := Hback_1
  refine zw_if (fun c1 => ?_) (fun c1 => ?_)
  · refine zw_some ?_
    first | exact True.intro | ((try dsimp only); (repeat' apply And.intro) <;> first | with_reducible assumption | first | lia | grind [zu_at, zu_atL, zvn, zPow_0])
  have hz := zPow_step Hback_1_0 (by lia) (v := (f1 (0 : Int32).toNatClampNeg)) (by grind) (by grind)
  obtain ⟨hz1, hz2, hz3, hz4⟩ := zPow_rng hz
  exact hback_1 _ (by (try dsimp only); (repeat' apply And.intro) <;> first | with_reducible assumption | first | lia | grind [zu_at, zu_atL, zvn, zPow_0]) (by (try dsimp only); first | lia | grind [zu_at, zu_atL, zvn, zPow_0]) (by (try dsimp only); first | lia | grind [zu_at, zu_atL, zvn, zPow_0])
set_option maxHeartbeats 4000000 in
set_option maxRecDepth 100000 in
theorem sf_X12_triesChoice (p1 : Int32) (v0_30 : Int32) (f1 : Nat → Int32) (f2 : Nat → Int32) (f3 : Nat → Int32) (f4 : Nat → Int32) (f5 : Nat → Int32) (f6 : Nat → Int32) (h_p1 : 0 ≤ p1 ∧ p1 ≤ 1023) (h_v0_30 : 0 ≤ v0_30 ∧ v0_30 ≤ 14) (h_f1 : (∀ i : Nat, 0 ≤ f1 i ∧ f1 i ≤ 14)) (h_f2 : (∀ i : Nat, 0 ≤ f2 i ∧ f2 i ≤ 3)) (h_f3 : (∀ i : Nat, 0 ≤ f3 i ∧ f3 i ≤ 3)) (h_f4 : (∀ i : Nat, 0 ≤ f4 i ∧ f4 i ≤ 13)) (h_f5 : (∀ i : Nat, 0 ≤ f5 i ∧ f5 i ≤ 4)) (h_f6 : (∀ i : Nat, 0 ≤ f6 i ∧ f6 i ≤ 13)) (hr_0 : 1 ≤ (f5 (0 : Int32).toNatClampNeg)) : zw (fn_X12_triesChoice p1 v0_30 f1 f2 f3 f4 f5 f6) (fun r => (∀ i : Nat, 0 ≤ r i ∧ r i ≤ 3) ∧ (∀ i : Nat, r i = f2 i ∨ r i = f3 i ∨ 0 ≤ r i ∧ r i < f5 (0 : Int32).toNatClampNeg)) := by
  unfold fn_X12_triesChoice
  refine zw_zb0 (sf_X12_triesHand f1 f2 f3 (by first | with_reducible assumption | exact ⟨by with_reducible assumption, by with_reducible assumption⟩ | first | lia | grind [zu_at, zu_atL, zvn]) (by first | with_reducible assumption | exact ⟨by with_reducible assumption, by with_reducible assumption⟩ | first | lia | grind [zu_at, zu_atL, zvn]) (by first | with_reducible assumption | exact ⟨by with_reducible assumption, by with_reducible assumption⟩ | first | lia | grind [zu_at, zu_atL, zvn])) (fun o_1 ho_1 => ?_)
  obtain ⟨ho_1_0, ho_1_1⟩ := ho_1
  refine zw_zl32 (fun s_5 => (∀ i : Nat, 0 ≤ s_5.2.2 i ∧ s_5.2.2 i ≤ 3) ∧ 0 ≤ s_5.1 ∧ s_5.1 ≤ 1023 ∧ (-1) ≤ s_5.2.1 ∧ s_5.2.1 ≤ 13 ∧ s_5.1 ≤ p1 ∧ s_5.2.1 < v0_30 ∧ (∀ i : Nat, s_5.2.2 i = f2 i ∨ s_5.2.2 i = f3 i ∨ 0 ≤ s_5.2.2 i ∧ s_5.2.2 i < f5 (0 : Int32).toNatClampNeg)) (fun s_5 => s_5.2.1 - (-1)) (by (try dsimp only); (repeat' apply And.intro) <;> first | with_reducible assumption | first | lia | grind [zu_at, zu_atL, zvn]) (by (try dsimp only); first | lia | grind [zu_at, zu_atL, zvn]) (fun s_5 back_5 Hback_5 hback_5 => ?_)
  obtain ⟨s_5_0, s_5_1, s_5_2⟩ := s_5
  try dsimp only at Hback_5 hback_5
  obtain ⟨Hback_5_0, Hback_5_1, Hback_5_2, Hback_5_3, Hback_5_4, Hback_5_5, Hback_5_6, Hback_5_7⟩ := Hback_5
  refine zw_if (fun c1 => ?_) (fun c1 => ?_)
  · refine zw_some ?_
    first | exact True.intro | ((try dsimp only); (repeat' apply And.intro) <;> first | with_reducible assumption | ((try clear hback_5); first | lia | grind [zu_at, zu_atL, zvn]))
  refine zw_zg32 14 (by decide) (by (try dsimp only); ((try clear hback_5); first | lia | grind [zu_at, zu_atL, zvn])) ?_
  refine zw_zd (by (try dsimp only); ((try clear hback_5); first | lia | grind [zu_at, zu_atL, zvn])) ?_
  refine zw_zn (fun x_9 ex_9 => ?_)
  have hdm := zdivm s_5_0 (f5 (0 : Int32).toNatClampNeg) Hback_5_1 Hback_5_2 hr_0 (h_f5 _).2
  rw [← ex_9] at hdm
  refine zw_zb0 (sf_X12_triesGroup (f4 s_5_1.toNatClampNeg) x_9 f1 f6 s_5_2 (by first | with_reducible assumption | exact ⟨by with_reducible assumption, by with_reducible assumption⟩ | ((try clear hback_5); first | lia | grind [zu_at, zu_atL, zvn])) (by first | with_reducible assumption | exact ⟨by with_reducible assumption, by with_reducible assumption⟩ | ((try clear hback_5); first | lia | grind [zu_at, zu_atL, zvn])) (by first | with_reducible assumption | exact ⟨by with_reducible assumption, by with_reducible assumption⟩ | ((try clear hback_5); first | lia | grind [zu_at, zu_atL, zvn])) (by first | with_reducible assumption | exact ⟨by with_reducible assumption, by with_reducible assumption⟩ | ((try clear hback_5); first | lia | grind [zu_at, zu_atL, zvn]))) (fun o_10 ho_10 => ?_)
  obtain ⟨ho_10_0, ho_10_1⟩ := ho_10
  refine zw_zd (by (try dsimp only); ((try clear hback_5); first | lia | grind [zu_at, zu_atL, zvn])) ?_
  exact hback_5 _ (by (try dsimp only); (repeat' apply And.intro) <;> first | with_reducible assumption | ((try clear hback_5); first | lia | grind [zu_at, zu_atL, zvn])) (by (try dsimp only); ((try clear hback_5); first | lia | grind [zu_at, zu_atL, zvn])) (by (try dsimp only); ((try clear hback_5); first | lia | grind [zu_at, zu_atL, zvn]))
set_option maxHeartbeats 4000000 in
set_option maxRecDepth 100000 in
theorem sf_X12_cheapestChoice (v0_30 : Int32) (v0_33 : Int32) (w0_34 : Int64) (v0_41 : Int32) (v0_42 : Int32) (f1 : Nat → Int32) (f2 : Nat → Int32) (f3 : Nat → Int32) (f4 : Nat → Int32) (f5 : Nat → Int32) (f6 : Nat → Int32) (f7 : Nat → Int32) (f8 : Nat → Int32) (f9 : Nat → Int32) (f10 : Nat → Int32) (f11 : Nat → Int32) (f12 : Nat → Int64) (f13 : Nat → Int64) (f14 : Nat → Int64) (f15 : Nat → Int64) (f16 : Nat → Int32) (f17 : Nat → Int64) (f18 : Nat → Int32) (f19 : Nat → Int32) (h_v0_30 : 0 ≤ v0_30 ∧ v0_30 ≤ 5) (h_f1 : (∀ i : Nat, 0 ≤ f1 i ∧ f1 i ≤ 4)) (h_f2 : (∀ i : Nat, 0 ≤ f2 i ∧ f2 i ≤ 14)) (h_f3 : (∀ i : Nat, 0 ≤ f3 i ∧ f3 i ≤ 3)) (h_f4 : (∀ i : Nat, 0 ≤ f4 i ∧ f4 i ≤ 3)) (h_f5 : (∀ i : Nat, 0 ≤ f5 i ∧ f5 i ≤ 13)) (h_f6 : (∀ i : Nat, 0 ≤ f6 i ∧ f6 i ≤ 13)) (h_f8 : (∀ i : Nat, (-1) ≤ f8 i ∧ f8 i ≤ 13)) (h_f9 : (∀ i : Nat, (-1) ≤ f9 i ∧ f9 i ≤ 13)) (hr_0 : 1 ≤ (f1 (0 : Int32).toNatClampNeg)) (hx_0 : (∀ x : Int32, 0 ≤ x → x < f1 (0 : Int32).toNatClampNeg → 1 ≤ f16 x.toNatClampNeg)) (hx_1 : (∀ i : Nat, 1 ≤ f16 (f3 i).toNatClampNeg)) (hx_2 : (∀ i : Nat, 1 ≤ f16 (f4 i).toNatClampNeg)) : zw (fn_X12_cheapestChoice v0_30 v0_33 w0_34 v0_41 v0_42 f1 f2 f3 f4 f5 f6 f7 f8 f9 f10 f11 f12 f13 f14 f15 f16 f17 f18 f19) (fun r => (∀ i : Nat, 0 ≤ r.2.2.2.1 i ∧ r.2.2.2.1 i ≤ 3) ∧ (-1) ≤ r.1 ∧ r.1 ≤ 1023 ∧ (∀ i : Nat, r.2.2.2.1 i = f3 i ∨ r.2.2.2.1 i = f4 i ∨ 0 ≤ r.2.2.2.1 i ∧ r.2.2.2.1 i < f1 (0 : Int32).toNatClampNeg)) := by
  unfold fn_X12_cheapestChoice
  refine zw_zb0 (sf_X12_allChoices v0_30 f1 (by first | with_reducible assumption | exact ⟨by with_reducible assumption, by with_reducible assumption⟩ | first | lia | grind [zu_at, zu_atL, zvn]) (by first | with_reducible assumption | exact ⟨by with_reducible assumption, by with_reducible assumption⟩ | first | lia | grind [zu_at, zu_atL, zvn])) (fun o_1 ho_1 => ?_)
  obtain ⟨ho_1_0, ho_1_1⟩ := ho_1
  refine zw_zl32 (fun s_5 => (∀ i : Nat, 0 ≤ s_5.2.2.2.2.2.2.2.1 i ∧ s_5.2.2.2.2.2.2.2.1 i ≤ 3) ∧ (-1) ≤ s_5.1 ∧ s_5.1 ≤ 1023 ∧ 0 ≤ s_5.2.2.1 ∧ s_5.2.2.1 ≤ 1024 ∧ s_5.1 < o_1 ∧ s_5.2.2.1 ≤ o_1 ∧ s_5.1 < s_5.2.2.1 ∧ (∀ i : Nat, s_5.2.2.2.2.2.2.2.1 i = f3 i ∨ s_5.2.2.2.2.2.2.2.1 i = f4 i ∨ 0 ≤ s_5.2.2.2.2.2.2.2.1 i ∧ s_5.2.2.2.2.2.2.2.1 i < f1 (0 : Int32).toNatClampNeg)) (fun s_5 => 1024 - s_5.2.2.1) (by (try dsimp only); (repeat' apply And.intro) <;> first | with_reducible assumption | first | lia | grind [zu_at, zu_atL, zvn]) (by (try dsimp only); first | lia | grind [zu_at, zu_atL, zvn]) (fun s_5 back_5 Hback_5 hback_5 => ?_)
  obtain ⟨s_5_0, s_5_1, s_5_2, s_5_3, s_5_4, s_5_5, s_5_6, s_5_7, s_5_8⟩ := s_5
  try dsimp only at Hback_5 hback_5
  obtain ⟨Hback_5_0, Hback_5_1, Hback_5_2, Hback_5_3, Hback_5_4, Hback_5_5, Hback_5_6, Hback_5_7, Hback_5_8⟩ := Hback_5
  refine zw_if (fun c1 => ?_) (fun c1 => ?_)
  · refine zw_some ?_
    first | exact True.intro | ((try dsimp only); (repeat' apply And.intro) <;> first | with_reducible assumption | ((try clear hback_5); first | lia | grind [zu_at, zu_atL, zvn]))
  refine zw_zb0 (sf_X12_triesChoice s_5_2 v0_30 f2 f3 s_5_7 f5 f1 f6 (by first | with_reducible assumption | exact ⟨by with_reducible assumption, by with_reducible assumption⟩ | ((try clear hback_5); first | lia | grind [zu_at, zu_atL, zvn])) (by first | with_reducible assumption | exact ⟨by with_reducible assumption, by with_reducible assumption⟩ | ((try clear hback_5); first | lia | grind [zu_at, zu_atL, zvn])) (by first | with_reducible assumption | exact ⟨by with_reducible assumption, by with_reducible assumption⟩ | ((try clear hback_5); first | lia | grind [zu_at, zu_atL, zvn])) (by first | with_reducible assumption | exact ⟨by with_reducible assumption, by with_reducible assumption⟩ | ((try clear hback_5); first | lia | grind [zu_at, zu_atL, zvn])) (by first | with_reducible assumption | exact ⟨by with_reducible assumption, by with_reducible assumption⟩ | ((try clear hback_5); first | lia | grind [zu_at, zu_atL, zvn])) (by first | with_reducible assumption | exact ⟨by with_reducible assumption, by with_reducible assumption⟩ | ((try clear hback_5); first | lia | grind [zu_at, zu_atL, zvn])) (by first | with_reducible assumption | exact ⟨by with_reducible assumption, by with_reducible assumption⟩ | ((try clear hback_5); first | lia | grind [zu_at, zu_atL, zvn])) (by first | with_reducible assumption | exact ⟨by with_reducible assumption, by with_reducible assumption⟩ | ((try clear hback_5); first | lia | grind [zu_at, zu_atL, zvn])) (by first | with_reducible assumption | exact ⟨by with_reducible assumption, by with_reducible assumption⟩ | ((try clear hback_5); first | lia | grind [zu_at, zu_atL, zvn]))) (fun o_7 ho_7 => ?_)
  obtain ⟨ho_7_0, ho_7_1⟩ := ho_7
  refine zw_zb0 (sf_X12_costTried f7 f2 f8 o_7 f9 f10 (by first | with_reducible assumption | exact ⟨by with_reducible assumption, by with_reducible assumption⟩ | ((try clear hback_5); first | lia | grind [zu_at, zu_atL, zvn])) (by first | with_reducible assumption | exact ⟨by with_reducible assumption, by with_reducible assumption⟩ | ((try clear hback_5); first | lia | grind [zu_at, zu_atL, zvn])) (by first | with_reducible assumption | exact ⟨by with_reducible assumption, by with_reducible assumption⟩ | ((try clear hback_5); first | lia | grind [zu_at, zu_atL, zvn])) (by first | with_reducible assumption | exact ⟨by with_reducible assumption, by with_reducible assumption⟩ | ((try clear hback_5); first | lia | grind [zu_at, zu_atL, zvn]))) (fun o_11 ho_11 => ?_)
  refine zw_zj (fun _ => True) (fun s_15 Hj_15 => ?_) (fun j_15 hj_15 => ?_)
  · refine zw_zb0 (sf_X12_passes v0_33 w0_34 f2 f11 f8 f9 s_5_5 f13 f14 s_5_6 o_7 f16 s_5_8 f18 f19 (by first | with_reducible assumption | exact ⟨by with_reducible assumption, by with_reducible assumption⟩ | ((try clear hback_5); (try clear hj_15); first | lia | grind [zu_at, zu_atL, zvn])) (by first | with_reducible assumption | exact ⟨by with_reducible assumption, by with_reducible assumption⟩ | ((try clear hback_5); (try clear hj_15); first | lia | grind [zu_at, zu_atL, zvn])) (by first | with_reducible assumption | exact ⟨by with_reducible assumption, by with_reducible assumption⟩ | ((try clear hback_5); (try clear hj_15); first | lia | grind [zu_at, zu_atL, zvn])) (by first | with_reducible assumption | exact ⟨by with_reducible assumption, by with_reducible assumption⟩ | ((try clear hback_5); (try clear hj_15); first | lia | grind [zu_at, zu_atL, zvn])) (by first | with_reducible assumption | exact ⟨by with_reducible assumption, by with_reducible assumption⟩ | ((try clear hback_5); (try clear hj_15); first | lia | grind [zu_at, zu_atL, zvn]))) (fun o_16 ho_16 => ?_)
    obtain ⟨o_16_0, o_16_1, o_16_2, o_16_3, o_16_4, o_16_5⟩ := o_16
    try dsimp only at ho_16
    obtain ⟨ho_16_0, ho_16_1, ho_16_2, ho_16_3, ho_16_4, ho_16_5, ho_16_6, ho_16_7, ho_16_8, ho_16_9, ho_16_10, ho_16_11, ho_16_12⟩ := ho_16
    refine zw_if (fun c2 => ?_) (fun c2 => ?_)
    · exact hback_5 _ (by (try dsimp only); (repeat' apply And.intro) <;> first | with_reducible assumption | ((try clear hback_5); (try clear hj_15); first | lia | grind [zu_at, zu_atL, zvn])) (by (try dsimp only); ((try clear hback_5); (try clear hj_15); first | lia | grind [zu_at, zu_atL, zvn])) (by (try dsimp only); ((try clear hback_5); (try clear hj_15); first | lia | grind [zu_at, zu_atL, zvn]))
    exact hback_5 _ (by (try dsimp only); (repeat' apply And.intro) <;> first | with_reducible assumption | ((try clear hback_5); (try clear hj_15); first | lia | grind [zu_at, zu_atL, zvn])) (by (try dsimp only); ((try clear hback_5); (try clear hj_15); first | lia | grind [zu_at, zu_atL, zvn])) (by (try dsimp only); ((try clear hback_5); (try clear hj_15); first | lia | grind [zu_at, zu_atL, zvn]))
  refine zw_if (fun c3 => ?_) (fun c3 => ?_)
  · exact hj_15 _ (by first | exact True.intro | ((try dsimp only); (repeat' apply And.intro) <;> first | with_reducible assumption | ((try clear hback_5); (try clear hj_15); first | lia | grind [zu_at, zu_atL, zvn])))
  refine zw_if (fun c4 => ?_) (fun c4 => ?_)
  · exact hback_5 _ (by (try dsimp only); (repeat' apply And.intro) <;> first | with_reducible assumption | ((try clear hback_5); (try clear hj_15); first | lia | grind [zu_at, zu_atL, zvn])) (by (try dsimp only); ((try clear hback_5); (try clear hj_15); first | lia | grind [zu_at, zu_atL, zvn])) (by (try dsimp only); ((try clear hback_5); (try clear hj_15); first | lia | grind [zu_at, zu_atL, zvn]))
  exact hj_15 _ (by first | exact True.intro | ((try dsimp only); (repeat' apply And.intro) <;> first | with_reducible assumption | ((try clear hback_5); (try clear hj_15); first | lia | grind [zu_at, zu_atL, zvn])))
set_option maxHeartbeats 4000000 in
set_option maxRecDepth 100000 in
theorem sf_X12_cheapest (p1 : Int32) (w0_34 : Int64) (v0_38 : Int32) (v0_41 : Int32) (v0_42 : Int32) (f1 : Nat → Int32) (f2 : Nat → Int32) (f3 : Nat → Int32) (f4 : Nat → Int32) (f5 : Nat → Int32) (f6 : Nat → Int32) (f7 : Nat → Int32) (f8 : Nat → Int32) (f9 : Nat → Int32) (f10 : Nat → Int32) (f11 : Nat → Int32) (f12 : Nat → Int32) (f13 : Nat → Int64) (f14 : Nat → Int64) (f15 : Nat → Int64) (f16 : Nat → Int64) (f17 : Nat → Int32) (f18 : Nat → Int64) (f19 : Nat → Int32) (f20 : Nat → Int32) (h_v0_38 : 0 ≤ v0_38 ∧ v0_38 ≤ 1) (h_f1 : (∀ i : Nat, 0 ≤ f1 i ∧ f1 i ≤ 14)) (h_f2 : (∀ i : Nat, 0 ≤ f2 i ∧ f2 i ≤ 13)) (h_f3 : (∀ i : Nat, (-1) ≤ f3 i ∧ f3 i ≤ 3)) (h_f4 : (∀ i : Nat, 0 ≤ f4 i ∧ f4 i ≤ 13)) (h_f5 : (∀ i : Nat, 0 ≤ f5 i ∧ f5 i ≤ 4)) (h_f6 : (∀ i : Nat, 0 ≤ f6 i ∧ f6 i ≤ 3)) (h_f7 : (∀ i : Nat, 0 ≤ f7 i ∧ f7 i ≤ 3)) (h_f9 : (∀ i : Nat, (-1) ≤ f9 i ∧ f9 i ≤ 13)) (h_f10 : (∀ i : Nat, (-1) ≤ f10 i ∧ f10 i ≤ 13)) (hx_0 : f1 (0 : Int32).toNatClampNeg ≤ 0 ∨ 1 ≤ f5 (0 : Int32).toNatClampNeg ∧ (∀ x : Int32, 0 ≤ x → x < f5 (0 : Int32).toNatClampNeg → 1 ≤ f17 x.toNatClampNeg) ∧ (∀ i : Nat, 1 ≤ f17 (f6 i).toNatClampNeg) ∧ (∀ i : Nat, 1 ≤ f17 (f7 i).toNatClampNeg)) : zw (fn_X12_cheapest p1 w0_34 v0_38 v0_41 v0_42 f1 f2 f3 f4 f5 f6 f7 f8 f9 f10 f11 f12 f13 f14 f15 f16 f17 f18 f19 f20) (fun r => 0 ≤ r.2.1 ∧ r.2.1 ≤ 14 ∧ (∀ i : Nat, 0 ≤ r.2.2.2.2.2.1 i ∧ r.2.2.2.2.2.1 i ≤ 13) ∧ (∀ i : Nat, 0 ≤ r.2.2.2.2.2.2.1 i ∧ r.2.2.2.2.2.2.1 i ≤ 3) ∧ (-1) ≤ r.2.2.1 ∧ r.2.2.1 ≤ (-1) ∧ (∀ i : Nat, r.2.2.2.2.2.2.1 i = f6 i ∨ r.2.2.2.2.2.2.1 i = f7 i ∨ 0 ≤ r.2.2.2.2.2.2.1 i ∧ r.2.2.2.2.2.2.1 i < f5 (0 : Int32).toNatClampNeg)) := by
  unfold fn_X12_cheapest
  refine zw_zb0 (sf_X12_canSearch v0_38 f1 f2 f3 f4 (by first | with_reducible assumption | exact ⟨by with_reducible assumption, by with_reducible assumption⟩ | first | lia | grind [zu_at, zu_atL, zvn]) (by first | with_reducible assumption | exact ⟨by with_reducible assumption, by with_reducible assumption⟩ | first | lia | grind [zu_at, zu_atL, zvn]) (by first | with_reducible assumption | exact ⟨by with_reducible assumption, by with_reducible assumption⟩ | first | lia | grind [zu_at, zu_atL, zvn]) (by first | with_reducible assumption | exact ⟨by with_reducible assumption, by with_reducible assumption⟩ | first | lia | grind [zu_at, zu_atL, zvn]) (by first | with_reducible assumption | exact ⟨by with_reducible assumption, by with_reducible assumption⟩ | first | lia | grind [zu_at, zu_atL, zvn])) (fun o_1 ho_1 => ?_)
  obtain ⟨o_1_0, o_1_1, o_1_2, o_1_3⟩ := o_1
  try dsimp only at ho_1
  obtain ⟨ho_1_0, ho_1_1, ho_1_2, ho_1_3, ho_1_4, ho_1_5, ho_1_6, ho_1_7, ho_1_8, ho_1_9, ho_1_10, ho_1_11, ho_1_12⟩ := ho_1
  refine zw_if (fun c1 => ?_) (fun c1 => ?_)
  · refine zw_some ?_
    first | exact True.intro | ((try dsimp only); (repeat' apply And.intro) <;> first | with_reducible assumption | first | lia | grind [zu_at, zu_atL, zvn])
  refine zw_zj (fun _ => (-1) ≤ p1 ∧ p1 ≤ 13 ∧ p1 < (f1 (0 : Int32).toNatClampNeg)) (fun s_6 Hj_6 => ?_) (fun j_6 hj_6 => ?_)
  · obtain ⟨Hj_6_0, Hj_6_1, Hj_6_2⟩ := Hj_6
    refine zw_zb0 (sf_X12_cheapestChoice o_1_1 o_1_2 w0_34 v0_41 v0_42 f5 f1 f6 f7 o_1_3 f2 f8 f9 f10 f11 f12 f13 f14 f15 f16 f17 f18 f19 f20 (by first | with_reducible assumption | exact ⟨by with_reducible assumption, by with_reducible assumption⟩ | ((try clear hj_6); first | lia | grind [zu_at, zu_atL, zvn])) (by first | with_reducible assumption | exact ⟨by with_reducible assumption, by with_reducible assumption⟩ | ((try clear hj_6); first | lia | grind [zu_at, zu_atL, zvn])) (by first | with_reducible assumption | exact ⟨by with_reducible assumption, by with_reducible assumption⟩ | ((try clear hj_6); first | lia | grind [zu_at, zu_atL, zvn])) (by first | with_reducible assumption | exact ⟨by with_reducible assumption, by with_reducible assumption⟩ | ((try clear hj_6); first | lia | grind [zu_at, zu_atL, zvn])) (by first | with_reducible assumption | exact ⟨by with_reducible assumption, by with_reducible assumption⟩ | ((try clear hj_6); first | lia | grind [zu_at, zu_atL, zvn])) (by first | with_reducible assumption | exact ⟨by with_reducible assumption, by with_reducible assumption⟩ | ((try clear hj_6); first | lia | grind [zu_at, zu_atL, zvn])) (by first | with_reducible assumption | exact ⟨by with_reducible assumption, by with_reducible assumption⟩ | ((try clear hj_6); first | lia | grind [zu_at, zu_atL, zvn])) (by first | with_reducible assumption | exact ⟨by with_reducible assumption, by with_reducible assumption⟩ | ((try clear hj_6); first | lia | grind [zu_at, zu_atL, zvn])) (by first | with_reducible assumption | exact ⟨by with_reducible assumption, by with_reducible assumption⟩ | ((try clear hj_6); first | lia | grind [zu_at, zu_atL, zvn])) (by first | with_reducible assumption | exact ⟨by with_reducible assumption, by with_reducible assumption⟩ | ((try clear hj_6); first | lia | grind [zu_at, zu_atL, zvn])) (by first | with_reducible assumption | exact ⟨by with_reducible assumption, by with_reducible assumption⟩ | ((try clear hj_6); first | lia | grind [zu_at, zu_atL, zvn])) (by first | with_reducible assumption | exact ⟨by with_reducible assumption, by with_reducible assumption⟩ | ((try clear hj_6); first | lia | grind [zu_at, zu_atL, zvn])) (by first | with_reducible assumption | exact ⟨by with_reducible assumption, by with_reducible assumption⟩ | ((try clear hj_6); first | lia | grind [zu_at, zu_atL, zvn]))) (fun o_7 ho_7 => ?_)
    obtain ⟨o_7_0, o_7_1, o_7_2, o_7_3, o_7_4, o_7_5, o_7_6⟩ := o_7
    try dsimp only at ho_7
    obtain ⟨ho_7_0, ho_7_1, ho_7_2, ho_7_3⟩ := ho_7
    refine zw_if (fun c2 => ?_) (fun c2 => ?_)
    · refine zw_some ?_
      first | exact True.intro | ((try dsimp only); (repeat' apply And.intro) <;> first | with_reducible assumption | ((try clear hj_6); first | lia | grind [zu_at, zu_atL, zvn]))
    refine zw_zb0 (sf_X12_triesChoice o_7_0 o_1_1 f1 f6 o_7_3 o_1_3 f5 f2 (by first | with_reducible assumption | exact ⟨by with_reducible assumption, by with_reducible assumption⟩ | ((try clear hj_6); first | lia | grind [zu_at, zu_atL, zvn])) (by first | with_reducible assumption | exact ⟨by with_reducible assumption, by with_reducible assumption⟩ | ((try clear hj_6); first | lia | grind [zu_at, zu_atL, zvn])) (by first | with_reducible assumption | exact ⟨by with_reducible assumption, by with_reducible assumption⟩ | ((try clear hj_6); first | lia | grind [zu_at, zu_atL, zvn])) (by first | with_reducible assumption | exact ⟨by with_reducible assumption, by with_reducible assumption⟩ | ((try clear hj_6); first | lia | grind [zu_at, zu_atL, zvn])) (by first | with_reducible assumption | exact ⟨by with_reducible assumption, by with_reducible assumption⟩ | ((try clear hj_6); first | lia | grind [zu_at, zu_atL, zvn])) (by first | with_reducible assumption | exact ⟨by with_reducible assumption, by with_reducible assumption⟩ | ((try clear hj_6); first | lia | grind [zu_at, zu_atL, zvn])) (by first | with_reducible assumption | exact ⟨by with_reducible assumption, by with_reducible assumption⟩ | ((try clear hj_6); first | lia | grind [zu_at, zu_atL, zvn])) (by first | with_reducible assumption | exact ⟨by with_reducible assumption, by with_reducible assumption⟩ | ((try clear hj_6); first | lia | grind [zu_at, zu_atL, zvn])) (by first | with_reducible assumption | exact ⟨by with_reducible assumption, by with_reducible assumption⟩ | ((try clear hj_6); first | lia | grind [zu_at, zu_atL, zvn]))) (fun o_12 ho_12 => ?_)
    obtain ⟨ho_12_0, ho_12_1⟩ := ho_12
    refine zw_if (fun c3 => ?_) (fun c3 => ?_)
    · refine zw_zb0 (sf_X12_costTried f8 f1 f9 o_12 f10 f11 (by first | with_reducible assumption | exact ⟨by with_reducible assumption, by with_reducible assumption⟩ | ((try clear hj_6); first | lia | grind [zu_at, zu_atL, zvn])) (by first | with_reducible assumption | exact ⟨by with_reducible assumption, by with_reducible assumption⟩ | ((try clear hj_6); first | lia | grind [zu_at, zu_atL, zvn])) (by first | with_reducible assumption | exact ⟨by with_reducible assumption, by with_reducible assumption⟩ | ((try clear hj_6); first | lia | grind [zu_at, zu_atL, zvn])) (by first | with_reducible assumption | exact ⟨by with_reducible assumption, by with_reducible assumption⟩ | ((try clear hj_6); first | lia | grind [zu_at, zu_atL, zvn]))) (fun o_18 ho_18 => ?_)
      refine zw_some ?_
      first | exact True.intro | ((try dsimp only); (repeat' apply And.intro) <;> first | with_reducible assumption | ((try clear hj_6); first | lia | grind [zu_at, zu_atL, zvn]))
    refine zw_zg32 14 (by decide) (by (try dsimp only); ((try clear hj_6); first | lia | grind [zu_at, zu_atL, zvn])) ?_
    refine zw_some ?_
    first | exact True.intro | ((try dsimp only); (repeat' apply And.intro) <;> first | with_reducible assumption | ((try clear hj_6); first | lia | grind [zu_at, zu_atL, zvn]))
  refine zw_if (fun c4 => ?_) (fun c4 => ?_)
  · exact hj_6 _ (by first | exact True.intro | ((try dsimp only); (repeat' apply And.intro) <;> first | with_reducible assumption | ((try clear hj_6); first | lia | grind [zu_at, zu_atL, zvn])))
  refine zw_zb0 (sf_X12_isNumber p1 f1 (by first | with_reducible assumption | exact ⟨by with_reducible assumption, by with_reducible assumption⟩ | ((try clear hj_6); first | lia | grind [zu_at, zu_atL, zvn]))) (fun o_23 ho_23 => ?_)
  obtain ⟨ho_23_0, ho_23_1, ho_23_2, ho_23_3, ho_23_4, ho_23_5⟩ := ho_23
  refine zw_if (fun c5 => ?_) (fun c5 => ?_)
  · refine zw_some ?_
    first | exact True.intro | ((try dsimp only); (repeat' apply And.intro) <;> first | with_reducible assumption | ((try clear hj_6); first | lia | grind [zu_at, zu_atL, zvn]))
  exact hj_6 _ (by first | exact True.intro | ((try dsimp only); (repeat' apply And.intro) <;> first | with_reducible assumption | ((try clear hj_6); first | lia | grind [zu_at, zu_atL, zvn])))
set_option maxHeartbeats 4000000 in
set_option maxRecDepth 100000 in
theorem sf_X12_passing (v0_33 : Int32) (w0_34 : Int64) (v0_38 : Int32) (v0_41 : Int32) (v0_42 : Int32) (f1 : Nat → Int32) (f2 : Nat → Int32) (f3 : Nat → Int32) (f4 : Nat → Int32) (f5 : Nat → Int32) (f6 : Nat → Int32) (f7 : Nat → Int32) (f8 : Nat → Int32) (f9 : Nat → Int32) (f10 : Nat → Int32) (f11 : Nat → Int64) (f12 : Nat → Int64) (f13 : Nat → Int64) (f14 : Nat → Int64) (f15 : Nat → Int32) (f16 : Nat → Int64) (f17 : Nat → Int32) (f18 : Nat → Int32) (h_v0_38 : 0 ≤ v0_38 ∧ v0_38 ≤ 1) (h_f1 : (∀ i : Nat, 0 ≤ f1 i ∧ f1 i ≤ 14)) (h_f2 : (∀ i : Nat, 0 ≤ f2 i ∧ f2 i ≤ 13)) (h_f3 : (∀ i : Nat, (-1) ≤ f3 i ∧ f3 i ≤ 3)) (h_f4 : (∀ i : Nat, 0 ≤ f4 i ∧ f4 i ≤ 13)) (h_f5 : (∀ i : Nat, 0 ≤ f5 i ∧ f5 i ≤ 4)) (h_f6 : (∀ i : Nat, 0 ≤ f6 i ∧ f6 i ≤ 3)) (h_f7 : (∀ i : Nat, 0 ≤ f7 i ∧ f7 i ≤ 3)) (h_f9 : (∀ i : Nat, (-1) ≤ f9 i ∧ f9 i ≤ 13)) (h_f10 : (∀ i : Nat, (-1) ≤ f10 i ∧ f10 i ≤ 13)) (hx_0 : f1 (0 : Int32).toNatClampNeg ≤ 0 ∨ 1 ≤ f5 (0 : Int32).toNatClampNeg ∧ (∀ x : Int32, 0 ≤ x → x < f5 (0 : Int32).toNatClampNeg → 1 ≤ f15 x.toNatClampNeg) ∧ (∀ i : Nat, 1 ≤ f15 (f6 i).toNatClampNeg) ∧ (∀ i : Nat, 1 ≤ f15 (f7 i).toNatClampNeg)) : zw (fn_X12_passing v0_33 w0_34 v0_38 v0_41 v0_42 f1 f2 f3 f4 f5 f6 f7 f8 f9 f10 f11 f12 f13 f14 f15 f16 f17 f18) (fun r => 0 ≤ r.2.1 ∧ r.2.1 ≤ 14 ∧ (∀ i : Nat, 0 ≤ r.2.2.2.2.2.1 i ∧ r.2.2.2.2.2.1 i ≤ 13) ∧ (∀ i : Nat, 0 ≤ r.2.2.2.2.2.2.1 i ∧ r.2.2.2.2.2.2.1 i ≤ 3) ∧ (-1) ≤ r.1 ∧ r.1 ≤ 1024 ∧ (∀ i : Nat, r.2.2.2.2.2.2.1 i = f6 i ∨ r.2.2.2.2.2.2.1 i = f7 i ∨ 0 ≤ r.2.2.2.2.2.2.1 i ∧ r.2.2.2.2.2.2.1 i < f5 (0 : Int32).toNatClampNeg)) := by
  unfold fn_X12_passing
  refine zw_zb0 (sf_X12_laysFree f1 f2 f3 f4 (by first | with_reducible assumption | exact ⟨by with_reducible assumption, by with_reducible assumption⟩ | first | lia | grind [zu_at, zu_atL, zvn]) (by first | with_reducible assumption | exact ⟨by with_reducible assumption, by with_reducible assumption⟩ | first | lia | grind [zu_at, zu_atL, zvn]) (by first | with_reducible assumption | exact ⟨by with_reducible assumption, by with_reducible assumption⟩ | first | lia | grind [zu_at, zu_atL, zvn]) (by first | with_reducible assumption | exact ⟨by with_reducible assumption, by with_reducible assumption⟩ | first | lia | grind [zu_at, zu_atL, zvn])) (fun o_1 ho_1 => ?_)
  obtain ⟨o_1_0, o_1_1⟩ := o_1
  try dsimp only at ho_1
  obtain ⟨ho_1_0, ho_1_1, ho_1_2⟩ := ho_1
  refine zw_if (fun c1 => ?_) (fun c1 => ?_)
  · refine zw_some ?_
    first | exact True.intro | ((try dsimp only); (repeat' apply And.intro) <;> first | with_reducible assumption | first | lia | grind [zu_at, zu_atL, zvn])
  refine zw_if (fun c2 => ?_) (fun c2 => ?_)
  · refine zw_if (fun c3 => ?_) (fun c3 => ?_)
    · refine zw_some ?_
      first | exact True.intro | ((try dsimp only); (repeat' apply And.intro) <;> first | with_reducible assumption | first | lia | grind [zu_at, zu_atL, zvn])
    refine zw_zb0 (sf_X12_allChoices o_1_0 f5 (by first | with_reducible assumption | exact ⟨by with_reducible assumption, by with_reducible assumption⟩ | first | lia | grind [zu_at, zu_atL, zvn]) (by first | with_reducible assumption | exact ⟨by with_reducible assumption, by with_reducible assumption⟩ | first | lia | grind [zu_at, zu_atL, zvn])) (fun o_8 ho_8 => ?_)
    obtain ⟨ho_8_0, ho_8_1⟩ := ho_8
    refine zw_zl32 (fun s_12 => (∀ i : Nat, 0 ≤ s_12.2.2.2.2.2.2.1 i ∧ s_12.2.2.2.2.2.2.1 i ≤ 3) ∧ 0 ≤ s_12.1 ∧ s_12.1 ≤ 1024 ∧ 0 ≤ s_12.2.1 ∧ s_12.2.1 ≤ 1024 ∧ s_12.1 ≤ o_8 ∧ s_12.2.1 ≤ o_8 ∧ s_12.1 ≤ s_12.2.1 ∧ (∀ i : Nat, s_12.2.2.2.2.2.2.1 i = f6 i ∨ s_12.2.2.2.2.2.2.1 i = f7 i ∨ 0 ≤ s_12.2.2.2.2.2.2.1 i ∧ s_12.2.2.2.2.2.2.1 i < f5 (0 : Int32).toNatClampNeg)) (fun s_12 => 1024 - s_12.2.1) (by (try dsimp only); (repeat' apply And.intro) <;> first | with_reducible assumption | first | lia | grind [zu_at, zu_atL, zvn]) (by (try dsimp only); first | lia | grind [zu_at, zu_atL, zvn]) (fun s_12 back_12 Hback_12 hback_12 => ?_)
    obtain ⟨s_12_0, s_12_1, s_12_2, s_12_3, s_12_4, s_12_5, s_12_6, s_12_7⟩ := s_12
    try dsimp only at Hback_12 hback_12
    obtain ⟨Hback_12_0, Hback_12_1, Hback_12_2, Hback_12_3, Hback_12_4, Hback_12_5, Hback_12_6, Hback_12_7, Hback_12_8⟩ := Hback_12
    refine zw_if (fun c4 => ?_) (fun c4 => ?_)
    · refine zw_some ?_
      first | exact True.intro | ((try dsimp only); (repeat' apply And.intro) <;> first | with_reducible assumption | ((try clear hback_12); first | lia | grind [zu_at, zu_atL, zvn]))
    refine zw_zb0 (sf_X12_triesChoice s_12_1 o_1_0 f1 f6 s_12_6 o_1_1 f5 f2 (by first | with_reducible assumption | exact ⟨by with_reducible assumption, by with_reducible assumption⟩ | ((try clear hback_12); first | lia | grind [zu_at, zu_atL, zvn])) (by first | with_reducible assumption | exact ⟨by with_reducible assumption, by with_reducible assumption⟩ | ((try clear hback_12); first | lia | grind [zu_at, zu_atL, zvn])) (by first | with_reducible assumption | exact ⟨by with_reducible assumption, by with_reducible assumption⟩ | ((try clear hback_12); first | lia | grind [zu_at, zu_atL, zvn])) (by first | with_reducible assumption | exact ⟨by with_reducible assumption, by with_reducible assumption⟩ | ((try clear hback_12); first | lia | grind [zu_at, zu_atL, zvn])) (by first | with_reducible assumption | exact ⟨by with_reducible assumption, by with_reducible assumption⟩ | ((try clear hback_12); first | lia | grind [zu_at, zu_atL, zvn])) (by first | with_reducible assumption | exact ⟨by with_reducible assumption, by with_reducible assumption⟩ | ((try clear hback_12); first | lia | grind [zu_at, zu_atL, zvn])) (by first | with_reducible assumption | exact ⟨by with_reducible assumption, by with_reducible assumption⟩ | ((try clear hback_12); first | lia | grind [zu_at, zu_atL, zvn])) (by first | with_reducible assumption | exact ⟨by with_reducible assumption, by with_reducible assumption⟩ | ((try clear hback_12); first | lia | grind [zu_at, zu_atL, zvn])) (by first | with_reducible assumption | exact ⟨by with_reducible assumption, by with_reducible assumption⟩ | ((try clear hback_12); first | lia | grind [zu_at, zu_atL, zvn]))) (fun o_14 ho_14 => ?_)
    obtain ⟨ho_14_0, ho_14_1⟩ := ho_14
    refine zw_zb0 (sf_X12_passes (-1) w0_34 f1 f8 f9 f10 s_12_4 f12 f13 s_12_5 o_14 f15 s_12_7 f17 f18 (by first | with_reducible assumption | exact ⟨by with_reducible assumption, by with_reducible assumption⟩ | ((try clear hback_12); first | lia | grind [zu_at, zu_atL, zvn])) (by first | with_reducible assumption | exact ⟨by with_reducible assumption, by with_reducible assumption⟩ | ((try clear hback_12); first | lia | grind [zu_at, zu_atL, zvn])) (by first | with_reducible assumption | exact ⟨by with_reducible assumption, by with_reducible assumption⟩ | ((try clear hback_12); first | lia | grind [zu_at, zu_atL, zvn])) (by first | with_reducible assumption | exact ⟨by with_reducible assumption, by with_reducible assumption⟩ | ((try clear hback_12); first | lia | grind [zu_at, zu_atL, zvn])) (by first | with_reducible assumption | exact ⟨by with_reducible assumption, by with_reducible assumption⟩ | ((try clear hback_12); first | lia | grind [zu_at, zu_atL, zvn]))) (fun o_18 ho_18 => ?_)
    obtain ⟨o_18_0, o_18_1, o_18_2, o_18_3, o_18_4, o_18_5⟩ := o_18
    try dsimp only at ho_18
    obtain ⟨ho_18_0, ho_18_1, ho_18_2, ho_18_3, ho_18_4, ho_18_5, ho_18_6, ho_18_7, ho_18_8, ho_18_9, ho_18_10, ho_18_11, ho_18_12⟩ := ho_18
    refine zw_if (fun c5 => ?_) (fun c5 => ?_)
    · exact hback_12 _ (by (try dsimp only); (repeat' apply And.intro) <;> first | with_reducible assumption | ((try clear hback_12); first | lia | grind [zu_at, zu_atL, zvn])) (by (try dsimp only); ((try clear hback_12); first | lia | grind [zu_at, zu_atL, zvn])) (by (try dsimp only); ((try clear hback_12); first | lia | grind [zu_at, zu_atL, zvn]))
    exact hback_12 _ (by (try dsimp only); (repeat' apply And.intro) <;> first | with_reducible assumption | ((try clear hback_12); first | lia | grind [zu_at, zu_atL, zvn])) (by (try dsimp only); ((try clear hback_12); first | lia | grind [zu_at, zu_atL, zvn])) (by (try dsimp only); ((try clear hback_12); first | lia | grind [zu_at, zu_atL, zvn]))
  refine zw_some ?_
  first | exact True.intro | ((try dsimp only); (repeat' apply And.intro) <;> first | with_reducible assumption | ((try clear hback_12); first | lia | grind [zu_at, zu_atL, zvn]))
set_option maxHeartbeats 4000000 in
set_option maxRecDepth 100000 in
theorem sf_X12_keepsTried (f1 : Nat → Int32) (f2 : Nat → Int32) (f3 : Nat → Int32) (f4 : Nat → Int32) (f5 : Nat → Int32) (f6 : Nat → Int32) (f7 : Nat → Int32) (h_f1 : (∀ i : Nat, 0 ≤ f1 i ∧ f1 i ≤ 14)) (h_f2 : (∀ i : Nat, 0 ≤ f2 i ∧ f2 i ≤ 3)) (h_f3 : (∀ i : Nat, 0 ≤ f3 i ∧ f3 i ≤ 3)) (h_f5 : (∀ i : Nat, (-1) ≤ f5 i ∧ f5 i ≤ 13)) (h_f6 : (∀ i : Nat, (-1) ≤ f6 i ∧ f6 i ≤ 13)) : zw (fn_X12_keepsTried f1 f2 f3 f4 f5 f6 f7) (fun r => (∀ i : Nat, 0 ≤ r.2 i ∧ r.2 i ≤ 3) ∧ (∀ i : Nat, r.2 i = f2 i ∨ r.2 i = f3 i)) := by
  unfold fn_X12_keepsTried
  refine zw_zl32 (fun s_1 => (∀ i : Nat, 0 ≤ s_1.2 i ∧ s_1.2 i ≤ 3) ∧ 0 ≤ s_1.1 ∧ s_1.1 ≤ 14 ∧ (∀ i : Nat, s_1.2 i = f2 i ∨ s_1.2 i = f3 i)) (fun s_1 => 14 - s_1.1) (by (try dsimp only); (repeat' apply And.intro) <;> first | with_reducible assumption | first | lia | grind [zu_at, zu_atL, zvn]) (by (try dsimp only); first | lia | grind [zu_at, zu_atL, zvn]) (fun s_1 back_1 Hback_1 hback_1 => ?_)
  obtain ⟨s_1_0, s_1_1⟩ := s_1
  try dsimp only at Hback_1 hback_1
  obtain ⟨Hback_1_0, Hback_1_1, Hback_1_2, Hback_1_3⟩ := Hback_1
  refine zw_if (fun c1 => ?_) (fun c1 => ?_)
  · refine zw_zb0 (sf_X12_costTried f4 f1 f5 f2 f6 f7 (by first | with_reducible assumption | exact ⟨by with_reducible assumption, by with_reducible assumption⟩ | ((try clear hback_1); first | lia | grind [zu_at, zu_atL, zvn])) (by first | with_reducible assumption | exact ⟨by with_reducible assumption, by with_reducible assumption⟩ | ((try clear hback_1); first | lia | grind [zu_at, zu_atL, zvn])) (by first | with_reducible assumption | exact ⟨by with_reducible assumption, by with_reducible assumption⟩ | ((try clear hback_1); first | lia | grind [zu_at, zu_atL, zvn])) (by first | with_reducible assumption | exact ⟨by with_reducible assumption, by with_reducible assumption⟩ | ((try clear hback_1); first | lia | grind [zu_at, zu_atL, zvn]))) (fun o_3 ho_3 => ?_)
    refine zw_some ?_
    first | exact True.intro | ((try dsimp only); (repeat' apply And.intro) <;> first | with_reducible assumption | ((try clear hback_1); first | lia | grind [zu_at, zu_atL, zvn]))
  refine zw_zg32 14 (by decide) (by (try dsimp only); ((try clear hback_1); first | lia | grind [zu_at, zu_atL, zvn])) ?_
  exact hback_1 _ (by (try dsimp only); (repeat' apply And.intro) <;> first | with_reducible assumption | ((try clear hback_1); first | lia | grind [zu_at, zu_atL, zvn])) (by (try dsimp only); ((try clear hback_1); first | lia | grind [zu_at, zu_atL, zvn])) (by (try dsimp only); ((try clear hback_1); first | lia | grind [zu_at, zu_atL, zvn]))
set_option maxHeartbeats 4000000 in
set_option maxRecDepth 100000 in
theorem sf_X12_isBetter (p1 : Int32) (p2 : Int32) (p3 : Int32) (v0_33 : Int32) (w0_34 : Int64) (v0_44 : Int32) (v0_45 : Int32) (f1 : Nat → Int32) (f2 : Nat → Int32) (f3 : Nat → Int32) (f4 : Nat → Int32) (f5 : Nat → Int32) (f6 : Nat → Int32) (f7 : Nat → Int32) (f8 : Nat → Int32) (f9 : Nat → Int32) (f10 : Nat → Int64) (f11 : Nat → Int64) (f12 : Nat → Int64) (f13 : Nat → Int64) (f14 : Nat → Int32) (f15 : Nat → Int64) (f16 : Nat → Int32) (f17 : Nat → Int32) (f18 : Nat → Int32) (f19 : Nat → Int32) (f20 : Nat → Int32) (h_p1 : 0 ≤ p1 ∧ p1 ≤ 14) (h_p2 : 0 ≤ p2 ∧ p2 ≤ 14) (h_p3 : 0 ≤ p3 ∧ p3 ≤ 3) (h_f1 : (∀ i : Nat, 0 ≤ f1 i ∧ f1 i ≤ 14)) (h_f2 : (∀ i : Nat, 0 ≤ f2 i ∧ f2 i ≤ 3)) (h_f3 : (∀ i : Nat, 0 ≤ f3 i ∧ f3 i ≤ 3)) (h_f4 : (∀ i : Nat, 0 ≤ f4 i ∧ f4 i ≤ 13)) (h_f5 : (∀ i : Nat, 0 ≤ f5 i ∧ f5 i ≤ 13)) (h_f6 : (∀ i : Nat, 0 ≤ f6 i ∧ f6 i ≤ 13)) (h_f8 : (∀ i : Nat, (-1) ≤ f8 i ∧ f8 i ≤ 13)) (h_f9 : (∀ i : Nat, (-1) ≤ f9 i ∧ f9 i ≤ 13)) (h_f20 : (∀ i : Nat, 0 ≤ f20 i ∧ f20 i ≤ 1)) (hr_0 : (p1 + p2) ≤ 14) (hx_0 : (∀ i : Nat, 1 ≤ f14 (f3 i).toNatClampNeg)) (hx_1 : (∀ i : Nat, 1 ≤ f14 (f2 i).toNatClampNeg)) (hx_2 : 1 ≤ f14 p3.toNatClampNeg) : zw (fn_X12_isBetter p1 p2 p3 v0_33 w0_34 v0_44 v0_45 f1 f2 f3 f4 f5 f6 f7 f8 f9 f10 f11 f12 f13 f14 f15 f16 f17 f18 f19 f20) (fun r => 0 ≤ r.1 ∧ r.1 ≤ 1 ∧ (∀ i : Nat, 0 ≤ r.2.2.2.2.2.1 i ∧ r.2.2.2.2.2.1 i ≤ 3) ∧ (∀ i : Nat, 0 ≤ r.2.2.2.2.2.2.1 i ∧ r.2.2.2.2.2.2.1 i ≤ 3) ∧ (∀ i : Nat, 0 ≤ r.2.2.2.2.2.2.2.2.2.2 i ∧ r.2.2.2.2.2.2.2.2.2.2 i ≤ 1) ∧ (-2) ≤ r.2.1 ∧ 0 ≤ r.2.2.1 ∧ r.2.1 ≤ 13 ∧ r.2.2.1 ≤ 2 ∧ (∀ i : Nat, r.2.2.2.2.2.1 i = f3 i ∨ r.2.2.2.2.2.1 i = f2 i ∨ r.2.2.2.2.2.1 i = p3) ∧ (∀ i : Nat, r.2.2.2.2.2.2.1 i = f3 i ∨ r.2.2.2.2.2.2.1 i = f2 i ∨ r.2.2.2.2.2.2.1 i = p3)) := by
  unfold fn_X12_isBetter
  refine zw_zl32 (fun s_1 => (∀ i : Nat, 0 ≤ s_1.2 i ∧ s_1.2 i ≤ 3) ∧ 0 ≤ s_1.1 ∧ s_1.1 ≤ 14 ∧ (∀ i : Nat, s_1.2 i = f3 i ∨ s_1.2 i = f2 i ∨ s_1.2 i = p3)) (fun s_1 => 14 - s_1.1) (by (try dsimp only); (repeat' apply And.intro) <;> first | with_reducible assumption | first | lia | grind [zu_at, zu_atL, zvn]) (by (try dsimp only); first | lia | grind [zu_at, zu_atL, zvn]) (fun s_1 back_1 Hback_1 hback_1 => ?_)
  obtain ⟨s_1_0, s_1_1⟩ := s_1
  try dsimp only at Hback_1 hback_1
  obtain ⟨Hback_1_0, Hback_1_1, Hback_1_2, Hback_1_3⟩ := Hback_1
  refine zw_if (fun c1 => ?_) (fun c1 => ?_)
  · refine zw_zl32 (fun s_3 => (∀ i : Nat, 0 ≤ s_3.2 i ∧ s_3.2 i ≤ 3) ∧ 0 ≤ s_3.1 ∧ s_3.1 ≤ 14 ∧ p1 ≤ s_3.1 ∧ (∀ i : Nat, s_3.2 i = f3 i ∨ s_3.2 i = f2 i ∨ s_3.2 i = p3)) (fun s_3 => 14 - s_3.1) (by (try dsimp only); (repeat' apply And.intro) <;> first | with_reducible assumption | ((try clear hback_1); first | lia | grind [zu_at, zu_atL, zvn])) (by (try dsimp only); ((try clear hback_1); first | lia | grind [zu_at, zu_atL, zvn])) (fun s_3 back_3 Hback_3 hback_3 => ?_)
    obtain ⟨s_3_0, s_3_1⟩ := s_3
    try dsimp only at Hback_3 hback_3
    obtain ⟨Hback_3_0, Hback_3_1, Hback_3_2, Hback_3_3, Hback_3_4⟩ := Hback_3
    refine zw_if (fun c2 => ?_) (fun c2 => ?_)
    · refine zw_zb0 (sf_X12_passes v0_33 w0_34 f1 f7 f8 f9 f10 f11 f12 f13 s_3_1 f14 f15 f16 f17 (by first | with_reducible assumption | exact ⟨by with_reducible assumption, by with_reducible assumption⟩ | ((try clear hback_1); (try clear hback_3); first | lia | grind [zu_at, zu_atL, zvn])) (by first | with_reducible assumption | exact ⟨by with_reducible assumption, by with_reducible assumption⟩ | ((try clear hback_1); (try clear hback_3); first | lia | grind [zu_at, zu_atL, zvn])) (by first | with_reducible assumption | exact ⟨by with_reducible assumption, by with_reducible assumption⟩ | ((try clear hback_1); (try clear hback_3); first | lia | grind [zu_at, zu_atL, zvn])) (by first | with_reducible assumption | exact ⟨by with_reducible assumption, by with_reducible assumption⟩ | ((try clear hback_1); (try clear hback_3); first | lia | grind [zu_at, zu_atL, zvn])) (by first | with_reducible assumption | exact ⟨by with_reducible assumption, by with_reducible assumption⟩ | ((try clear hback_1); (try clear hback_3); first | lia | grind [zu_at, zu_atL, zvn]))) (fun o_5 ho_5 => ?_)
      obtain ⟨o_5_0, o_5_1, o_5_2, o_5_3, o_5_4, o_5_5⟩ := o_5
      try dsimp only at ho_5
      obtain ⟨ho_5_0, ho_5_1, ho_5_2, ho_5_3, ho_5_4, ho_5_5, ho_5_6, ho_5_7, ho_5_8, ho_5_9, ho_5_10, ho_5_11, ho_5_12⟩ := ho_5
      refine zw_if (fun c3 => ?_) (fun c3 => ?_)
      · refine zw_some ?_
        first | exact True.intro | ((try dsimp only); (repeat' apply And.intro) <;> first | with_reducible assumption | ((try clear hback_1); (try clear hback_3); first | lia | grind [zu_at, zu_atL, zvn]))
      refine zw_zb0 (sf_X12_costTried f18 f1 f8 s_3_1 f9 f19 (by first | with_reducible assumption | exact ⟨by with_reducible assumption, by with_reducible assumption⟩ | ((try clear hback_1); (try clear hback_3); first | lia | grind [zu_at, zu_atL, zvn])) (by first | with_reducible assumption | exact ⟨by with_reducible assumption, by with_reducible assumption⟩ | ((try clear hback_1); (try clear hback_3); first | lia | grind [zu_at, zu_atL, zvn])) (by first | with_reducible assumption | exact ⟨by with_reducible assumption, by with_reducible assumption⟩ | ((try clear hback_1); (try clear hback_3); first | lia | grind [zu_at, zu_atL, zvn])) (by first | with_reducible assumption | exact ⟨by with_reducible assumption, by with_reducible assumption⟩ | ((try clear hback_1); (try clear hback_3); first | lia | grind [zu_at, zu_atL, zvn]))) (fun o_10 ho_10 => ?_)
      refine zw_if (fun c4 => ?_) (fun c4 => ?_)
      · refine zw_zb0 (sf_X12_keepsTried f1 s_3_1 f2 f18 f8 f9 f19 (by first | with_reducible assumption | exact ⟨by with_reducible assumption, by with_reducible assumption⟩ | ((try clear hback_1); (try clear hback_3); first | lia | grind [zu_at, zu_atL, zvn])) (by first | with_reducible assumption | exact ⟨by with_reducible assumption, by with_reducible assumption⟩ | ((try clear hback_1); (try clear hback_3); first | lia | grind [zu_at, zu_atL, zvn])) (by first | with_reducible assumption | exact ⟨by with_reducible assumption, by with_reducible assumption⟩ | ((try clear hback_1); (try clear hback_3); first | lia | grind [zu_at, zu_atL, zvn])) (by first | with_reducible assumption | exact ⟨by with_reducible assumption, by with_reducible assumption⟩ | ((try clear hback_1); (try clear hback_3); first | lia | grind [zu_at, zu_atL, zvn])) (by first | with_reducible assumption | exact ⟨by with_reducible assumption, by with_reducible assumption⟩ | ((try clear hback_1); (try clear hback_3); first | lia | grind [zu_at, zu_atL, zvn]))) (fun o_15 ho_15 => ?_)
        obtain ⟨o_15_0, o_15_1⟩ := o_15
        try dsimp only at ho_15
        obtain ⟨ho_15_0, ho_15_1⟩ := ho_15
        refine zw_zl32 (fun s_19 => (∀ i : Nat, 0 ≤ s_19.2 i ∧ s_19.2 i ≤ 1) ∧ 0 ≤ s_19.1 ∧ s_19.1 ≤ 14 ∧ p1 ≤ s_19.1 ∧ s_19.1 ≤ s_3_0 ∧ s_19.1 ≤ (p1 + p2)) (fun s_19 => 14 - s_19.1) (by (try dsimp only); (repeat' apply And.intro) <;> first | with_reducible assumption | ((try clear hback_1); (try clear hback_3); first | lia | grind [zu_at, zu_atL, zvn])) (by (try dsimp only); ((try clear hback_1); (try clear hback_3); first | lia | grind [zu_at, zu_atL, zvn])) (fun s_19 back_19 Hback_19 hback_19 => ?_)
        obtain ⟨s_19_0, s_19_1⟩ := s_19
        try dsimp only at Hback_19 hback_19
        obtain ⟨Hback_19_0, Hback_19_1, Hback_19_2, Hback_19_3, Hback_19_4, Hback_19_5⟩ := Hback_19
        refine zw_if (fun c5 => ?_) (fun c5 => ?_)
        · refine zw_some ?_
          first | exact True.intro | ((try dsimp only); (repeat' apply And.intro) <;> first | with_reducible assumption | ((try clear hback_1); (try clear hback_3); (try clear hback_19); first | lia | grind [zu_at, zu_atL, zvn]))
        refine zw_zg32 14 (by decide) (by (try dsimp only); ((try clear hback_1); (try clear hback_3); (try clear hback_19); first | lia | grind [zu_at, zu_atL, zvn])) ?_
        refine zw_zg32 14 (by decide) (by (try dsimp only); ((try clear hback_1); (try clear hback_3); (try clear hback_19); first | lia | grind [zu_at, zu_atL, zvn])) ?_
        refine zw_zn1 ?_
        exact hback_19 _ (by (try dsimp only); (repeat' apply And.intro) <;> first | with_reducible assumption | ((try clear hback_1); (try clear hback_3); (try clear hback_19); first | lia | grind [zu_at, zu_atL, zvn])) (by (try dsimp only); ((try clear hback_1); (try clear hback_3); (try clear hback_19); first | lia | grind [zu_at, zu_atL, zvn])) (by (try dsimp only); ((try clear hback_1); (try clear hback_3); (try clear hback_19); first | lia | grind [zu_at, zu_atL, zvn]))
      refine zw_some ?_
      first | exact True.intro | ((try dsimp only); (repeat' apply And.intro) <;> first | with_reducible assumption | ((try clear hback_1); (try clear hback_3); (try clear hback_19); first | lia | grind [zu_at, zu_atL, zvn]))
    refine zw_zg32 14 (by decide) (by (try dsimp only); ((try clear hback_1); (try clear hback_3); (try clear hback_19); first | lia | grind [zu_at, zu_atL, zvn])) ?_
    refine zw_zg32 14 (by decide) (by (try dsimp only); ((try clear hback_1); (try clear hback_3); (try clear hback_19); first | lia | grind [zu_at, zu_atL, zvn])) ?_
    refine zw_zb0 (sf_X12_triesGroup (f5 (f4 s_3_0.toNatClampNeg).toNatClampNeg) p3 f1 f6 s_3_1 (by first | with_reducible assumption | exact ⟨by with_reducible assumption, by with_reducible assumption⟩ | ((try clear hback_1); (try clear hback_3); (try clear hback_19); first | lia | grind [zu_at, zu_atL, zvn])) (by first | with_reducible assumption | exact ⟨by with_reducible assumption, by with_reducible assumption⟩ | ((try clear hback_1); (try clear hback_3); (try clear hback_19); first | lia | grind [zu_at, zu_atL, zvn])) (by first | with_reducible assumption | exact ⟨by with_reducible assumption, by with_reducible assumption⟩ | ((try clear hback_1); (try clear hback_3); (try clear hback_19); first | lia | grind [zu_at, zu_atL, zvn])) (by first | with_reducible assumption | exact ⟨by with_reducible assumption, by with_reducible assumption⟩ | ((try clear hback_1); (try clear hback_3); (try clear hback_19); first | lia | grind [zu_at, zu_atL, zvn]))) (fun o_26 ho_26 => ?_)
    obtain ⟨ho_26_0, ho_26_1⟩ := ho_26
    exact hback_3 _ (by (try dsimp only); (repeat' apply And.intro) <;> first | with_reducible assumption | ((try clear hback_1); (try clear hback_3); (try clear hback_19); first | lia | grind [zu_at, zu_atL, zvn])) (by (try dsimp only); ((try clear hback_1); (try clear hback_3); (try clear hback_19); first | lia | grind [zu_at, zu_atL, zvn])) (by (try dsimp only); ((try clear hback_1); (try clear hback_3); (try clear hback_19); first | lia | grind [zu_at, zu_atL, zvn]))
  refine zw_zg32 14 (by decide) (by (try dsimp only); ((try clear hback_1); (try clear hback_3); (try clear hback_19); first | lia | grind [zu_at, zu_atL, zvn])) ?_
  exact hback_1 _ (by (try dsimp only); (repeat' apply And.intro) <;> first | with_reducible assumption | ((try clear hback_1); (try clear hback_3); (try clear hback_19); first | lia | grind [zu_at, zu_atL, zvn])) (by (try dsimp only); ((try clear hback_1); (try clear hback_3); (try clear hback_19); first | lia | grind [zu_at, zu_atL, zvn])) (by (try dsimp only); ((try clear hback_1); (try clear hback_3); (try clear hback_19); first | lia | grind [zu_at, zu_atL, zvn]))
set_option maxHeartbeats 4000000 in
set_option maxRecDepth 100000 in
theorem sf_X12_halvesBy (p1 : Int32) (v0_30 : Int32) (v0_33 : Int32) (w0_34 : Int64) (v0_41 : Int32) (v0_42 : Int32) (v0_44 : Int32) (v0_45 : Int32) (f1 : Nat → Int32) (f2 : Nat → Int32) (f3 : Nat → Int32) (f4 : Nat → Int32) (f5 : Nat → Int32) (f6 : Nat → Int32) (f7 : Nat → Int32) (f8 : Nat → Int32) (f9 : Nat → Int32) (f10 : Nat → Int32) (f11 : Nat → Int32) (f12 : Nat → Int32) (f13 : Nat → Int64) (f14 : Nat → Int64) (f15 : Nat → Int64) (f16 : Nat → Int64) (f17 : Nat → Int32) (f18 : Nat → Int64) (f19 : Nat → Int32) (f20 : Nat → Int32) (f21 : Nat → Int32) (f22 : Nat → Int32) (h_p1 : 0 ≤ p1 ∧ p1 ≤ 3) (h_v0_30 : 0 ≤ v0_30 ∧ v0_30 ≤ 14) (h_f1 : (∀ i : Nat, 0 ≤ f1 i ∧ f1 i ≤ 1)) (h_f2 : (∀ i : Nat, 0 ≤ f2 i ∧ f2 i ≤ 13)) (h_f5 : (∀ i : Nat, 0 ≤ f5 i ∧ f5 i ≤ 14)) (h_f6 : (∀ i : Nat, 0 ≤ f6 i ∧ f6 i ≤ 3)) (h_f7 : (∀ i : Nat, 0 ≤ f7 i ∧ f7 i ≤ 3)) (h_f8 : (∀ i : Nat, 0 ≤ f8 i ∧ f8 i ≤ 13)) (h_f9 : (∀ i : Nat, 0 ≤ f9 i ∧ f9 i ≤ 13)) (h_f11 : (∀ i : Nat, (-1) ≤ f11 i ∧ f11 i ≤ 13)) (h_f12 : (∀ i : Nat, (-1) ≤ f12 i ∧ f12 i ≤ 13)) (hx_0 : (∀ i : Nat, 1 ≤ f17 (f7 i).toNatClampNeg)) (hx_1 : (∀ i : Nat, 1 ≤ f17 (f6 i).toNatClampNeg)) (hx_2 : 1 ≤ f17 p1.toNatClampNeg) : zw (fn_X12_halvesBy p1 v0_30 v0_33 w0_34 v0_41 v0_42 v0_44 v0_45 f1 f2 f3 f4 f5 f6 f7 f8 f9 f10 f11 f12 f13 f14 f15 f16 f17 f18 f19 f20 f21 f22) (fun r => (∀ i : Nat, 0 ≤ r.2.2.2.2.1 i ∧ r.2.2.2.2.1 i ≤ 1) ∧ (∀ i : Nat, 0 ≤ r.2.2.2.2.2.1 i ∧ r.2.2.2.2.2.1 i ≤ 13) ∧ (∀ i : Nat, 0 ≤ r.2.2.2.2.2.2.2.2.1 i ∧ r.2.2.2.2.2.2.2.2.1 i ≤ 3) ∧ (∀ i : Nat, 0 ≤ r.2.2.2.2.2.2.2.2.2.1 i ∧ r.2.2.2.2.2.2.2.2.2.1 i ≤ 3) ∧ (∀ i : Nat, r.2.2.2.2.2.2.2.2.1 i = f7 i ∨ r.2.2.2.2.2.2.2.2.1 i = f6 i ∨ r.2.2.2.2.2.2.2.2.1 i = p1) ∧ (∀ i : Nat, r.2.2.2.2.2.2.2.2.2.1 i = f7 i ∨ r.2.2.2.2.2.2.2.2.2.1 i = f6 i ∨ r.2.2.2.2.2.2.2.2.2.1 i = p1)) := by
  unfold fn_X12_halvesBy
  refine zw_zl32 (fun s_1 => (∀ i : Nat, 0 ≤ s_1.2.2 i ∧ s_1.2.2 i ≤ 13) ∧ 0 ≤ s_1.1 ∧ s_1.1 ≤ 14 ∧ 0 ≤ s_1.2.1 ∧ s_1.2.1 ≤ 14 ∧ s_1.1 ≤ v0_30 ∧ s_1.1 ≤ s_1.2.1 ∧ s_1.2.1 ≤ v0_30) (fun s_1 => 14 - s_1.2.1) (by (try dsimp only); (repeat' (with_reducible apply And.intro)) <;> first | with_reducible assumption | first | lia | grind [zu_at, zu_atL, zvn, zHv_one, zHv_none]) (by (try dsimp only); first | lia | grind [zu_at, zu_atL, zvn, zHv_one, zHv_none]) (fun s_1 back_1 Hback_1 hback_1 => ?_)
  obtain ⟨s_1_0, s_1_1, s_1_2⟩ := s_1
  try dsimp only at Hback_1 hback_1
  obtain ⟨Hback_1_0, Hback_1_1, Hback_1_2, Hback_1_3, Hback_1_4, Hback_1_5, Hback_1_6, Hback_1_7⟩ := Hback_1
  refine zw_if (fun c1 => ?_) (fun c1 => ?_)
  · refine zw_zj (fun s_3 => zHv s_1_0 0 s_3.1 s_3.2.1 s_3.2.2 ∧ 0 ≤ s_3.1 ∧ s_3.1 ≤ 1 ∧ s_3.1 ≤ s_1_0) (fun s_3 Hj_3 => ?_) (fun j_3 hj_3 => ?_)
    · obtain ⟨s_3_0, s_3_1, s_3_2⟩ := s_3
      try dsimp only at Hj_3
      obtain ⟨Hj_3_0, Hj_3_1, Hj_3_2, Hj_3_3⟩ := Hj_3
      refine zw_zl32 (fun s_4 => zHv s_1_0 s_4.1 s_4.2.1 s_4.2.2.2.2.2.2.2.2.2.2.2.2.1 s_4.2.2.2.2.2.2.2.2.2.2.2.2.2 ∧ (∀ i : Nat, 0 ≤ s_4.2.2.2.2.2.2.2.2.1 i ∧ s_4.2.2.2.2.2.2.2.2.1 i ≤ 3) ∧ (∀ i : Nat, 0 ≤ s_4.2.2.2.2.2.2.2.2.2.2.1 i ∧ s_4.2.2.2.2.2.2.2.2.2.2.1 i ≤ 3) ∧ (∀ i : Nat, 0 ≤ s_4.2.2.2.2.2.2.2.2.2.2.2.1 i ∧ s_4.2.2.2.2.2.2.2.2.2.2.2.1 i ≤ 1) ∧ 0 ≤ s_4.1 ∧ s_4.1 ≤ 27 ∧ 0 ≤ s_4.2.1 ∧ s_4.2.1 ≤ 27 ∧ s_3_0 ≤ s_4.2.1 ∧ s_4.1 ≤ s_4.2.1 ∧ (∀ i : Nat, s_4.2.2.2.2.2.2.2.2.1 i = f7 i ∨ s_4.2.2.2.2.2.2.2.2.1 i = f6 i ∨ s_4.2.2.2.2.2.2.2.2.1 i = p1) ∧ (∀ i : Nat, s_4.2.2.2.2.2.2.2.2.2.2.1 i = f7 i ∨ s_4.2.2.2.2.2.2.2.2.2.2.1 i = f6 i ∨ s_4.2.2.2.2.2.2.2.2.2.2.1 i = p1)) (fun s_4 => 27 - s_4.1) (by (try dsimp only); (repeat' (with_reducible apply And.intro)) <;> first | with_reducible assumption | first | lia | grind [zu_at, zu_atL, zvn, zHv_one, zHv_none]) (by (try dsimp only); first | lia | grind [zu_at, zu_atL, zvn, zHv_one, zHv_none]) (fun s_4 back_4 Hback_4 hback_4 => ?_)
      obtain ⟨s_4_0, s_4_1, s_4_2, s_4_3, s_4_4, s_4_5, s_4_6, s_4_7, s_4_8, s_4_9, s_4_10, s_4_11, s_4_12, s_4_13⟩ := s_4
      try dsimp only at Hback_4 hback_4
      obtain ⟨Hback_4_0, Hback_4_1, Hback_4_2, Hback_4_3, Hback_4_4, Hback_4_5, Hback_4_6, Hback_4_7, Hback_4_8, Hback_4_9, Hback_4_10, Hback_4_11⟩ := Hback_4
      refine zw_if (fun c2 => ?_) (fun c2 => ?_)
      · refine zw_some ?_
        first | exact True.intro | ((try dsimp only); (repeat' (with_reducible apply And.intro)) <;> first | with_reducible assumption | first | lia | grind [zu_at, zu_atL, zvn, zHv_one, zHv_none])
      have Hg := zHv_get Hback_4_0 c2
      have Hk := zHv_skip Hback_4_0 c2
      refine zw_zg32 64 (by decide) (by (try dsimp only); first | lia | grind [zu_at, zu_atL, zvn, zHv_one, zHv_none]) ?_
      refine zw_zb0 (sf_X12_isBetter (s_4_12 s_4_0.toNatClampNeg) (s_4_13 s_4_0.toNatClampNeg) p1 v0_33 w0_34 s_4_4 s_4_5 f5 s_4_10 s_4_8 s_1_2 f8 f9 f10 f11 f12 s_4_6 f14 f15 s_4_7 f17 s_4_9 f19 f20 f21 f22 s_4_11 (by first | with_reducible assumption | exact ⟨by with_reducible assumption, by with_reducible assumption⟩ | first | lia | grind [zu_at, zu_atL, zvn, zHv_one, zHv_none]) (by first | with_reducible assumption | exact ⟨by with_reducible assumption, by with_reducible assumption⟩ | first | lia | grind [zu_at, zu_atL, zvn, zHv_one, zHv_none]) (by first | with_reducible assumption | exact ⟨by with_reducible assumption, by with_reducible assumption⟩ | first | lia | grind [zu_at, zu_atL, zvn, zHv_one, zHv_none]) (by first | with_reducible assumption | exact ⟨by with_reducible assumption, by with_reducible assumption⟩ | first | lia | grind [zu_at, zu_atL, zvn, zHv_one, zHv_none]) (by first | with_reducible assumption | exact ⟨by with_reducible assumption, by with_reducible assumption⟩ | first | lia | grind [zu_at, zu_atL, zvn, zHv_one, zHv_none]) (by first | with_reducible assumption | exact ⟨by with_reducible assumption, by with_reducible assumption⟩ | first | lia | grind [zu_at, zu_atL, zvn, zHv_one, zHv_none]) (by first | with_reducible assumption | exact ⟨by with_reducible assumption, by with_reducible assumption⟩ | first | lia | grind [zu_at, zu_atL, zvn, zHv_one, zHv_none]) (by first | with_reducible assumption | exact ⟨by with_reducible assumption, by with_reducible assumption⟩ | first | lia | grind [zu_at, zu_atL, zvn, zHv_one, zHv_none]) (by first | with_reducible assumption | exact ⟨by with_reducible assumption, by with_reducible assumption⟩ | first | lia | grind [zu_at, zu_atL, zvn, zHv_one, zHv_none]) (by first | with_reducible assumption | exact ⟨by with_reducible assumption, by with_reducible assumption⟩ | first | lia | grind [zu_at, zu_atL, zvn, zHv_one, zHv_none]) (by first | with_reducible assumption | exact ⟨by with_reducible assumption, by with_reducible assumption⟩ | first | lia | grind [zu_at, zu_atL, zvn, zHv_one, zHv_none]) (by first | with_reducible assumption | exact ⟨by with_reducible assumption, by with_reducible assumption⟩ | first | lia | grind [zu_at, zu_atL, zvn, zHv_one, zHv_none]) (by first | with_reducible assumption | exact ⟨by with_reducible assumption, by with_reducible assumption⟩ | first | lia | grind [zu_at, zu_atL, zvn, zHv_one, zHv_none]) (by first | with_reducible assumption | exact ⟨by with_reducible assumption, by with_reducible assumption⟩ | first | lia | grind [zu_at, zu_atL, zvn, zHv_one, zHv_none]) (by first | with_reducible assumption | exact ⟨by with_reducible assumption, by with_reducible assumption⟩ | first | lia | grind [zu_at, zu_atL, zvn, zHv_one, zHv_none]) (by first | with_reducible assumption | exact ⟨by with_reducible assumption, by with_reducible assumption⟩ | first | lia | grind [zu_at, zu_atL, zvn, zHv_one, zHv_none])) (fun o_7 ho_7 => ?_)
      obtain ⟨o_7_0, o_7_1, o_7_2, o_7_3, o_7_4, o_7_5, o_7_6, o_7_7, o_7_8, o_7_9, o_7_10⟩ := o_7
      try dsimp only at ho_7
      obtain ⟨ho_7_0, ho_7_1, ho_7_2, ho_7_3, ho_7_4, ho_7_5, ho_7_6, ho_7_7, ho_7_8, ho_7_9, ho_7_10⟩ := ho_7
      refine zw_if (fun c3 => ?_) (fun c3 => ?_)
      · refine zw_if (fun c4 => ?_) (fun c4 => ?_)
        · have Hs := zHv_split Hback_4_0 c2 c4 rfl rfl
          refine zw_zg32 64 (by decide) (by (try dsimp only); first | lia | grind [zu_at, zu_atL, zvn, zHv_one, zHv_none]) ?_
          refine zw_zn1 ?_
          refine zw_zn1 ?_
          refine zw_zn (fun x_16 ex_16 => ?_)
          refine zw_zg32 64 (by decide) (by (try dsimp only); first | lia | grind [zu_at, zu_atL, zvn, zHv_one, zHv_none]) ?_
          refine zw_zn (fun x_18 ex_18 => ?_)
          have Ht := zHv_split Hback_4_0 c2 c4 ex_16 ex_18
          exact hback_4 _ (by (try dsimp only); (repeat' (with_reducible apply And.intro)) <;> first | with_reducible assumption | first | lia | grind [zu_at, zu_atL, zvn, zHv_one, zHv_none]) (by (try dsimp only); first | lia | grind [zu_at, zu_atL, zvn, zHv_one, zHv_none]) (by (try dsimp only); first | lia | grind [zu_at, zu_atL, zvn, zHv_one, zHv_none])
        exact hback_4 _ (by (try dsimp only); (repeat' (with_reducible apply And.intro)) <;> first | with_reducible assumption | first | lia | grind [zu_at, zu_atL, zvn, zHv_one, zHv_none]) (by (try dsimp only); first | lia | grind [zu_at, zu_atL, zvn, zHv_one, zHv_none]) (by (try dsimp only); first | lia | grind [zu_at, zu_atL, zvn, zHv_one, zHv_none])
      exact hback_4 _ (by (try dsimp only); (repeat' (with_reducible apply And.intro)) <;> first | with_reducible assumption | first | lia | grind [zu_at, zu_atL, zvn, zHv_one, zHv_none]) (by (try dsimp only); first | lia | grind [zu_at, zu_atL, zvn, zHv_one, zHv_none]) (by (try dsimp only); first | lia | grind [zu_at, zu_atL, zvn, zHv_one, zHv_none])
    refine zw_if (fun c5 => ?_) (fun c5 => ?_)
    · exact hj_3 _ (by first | exact True.intro | ((try dsimp only); (repeat' (with_reducible apply And.intro)) <;> first | with_reducible assumption | first | lia | grind [zu_at, zu_atL, zvn, zHv_one, zHv_none]))
    exact hj_3 _ (by first | exact True.intro | ((try dsimp only); (repeat' (with_reducible apply And.intro)) <;> first | with_reducible assumption | first | lia | grind [zu_at, zu_atL, zvn, zHv_one, zHv_none]))
  refine zw_zg32 14 (by decide) (by (try dsimp only); first | lia | grind [zu_at, zu_atL, zvn, zHv_one, zHv_none]) ?_
  refine zw_if (fun c6 => ?_) (fun c6 => ?_)
  · refine zw_zg32 14 (by decide) (by (try dsimp only); first | lia | grind [zu_at, zu_atL, zvn, zHv_one, zHv_none]) ?_
    exact hback_1 _ (by (try dsimp only); (repeat' (with_reducible apply And.intro)) <;> first | with_reducible assumption | first | lia | grind [zu_at, zu_atL, zvn, zHv_one, zHv_none]) (by (try dsimp only); first | lia | grind [zu_at, zu_atL, zvn, zHv_one, zHv_none]) (by (try dsimp only); first | lia | grind [zu_at, zu_atL, zvn, zHv_one, zHv_none])
  exact hback_1 _ (by (try dsimp only); (repeat' (with_reducible apply And.intro)) <;> first | with_reducible assumption | first | lia | grind [zu_at, zu_atL, zvn, zHv_one, zHv_none]) (by (try dsimp only); first | lia | grind [zu_at, zu_atL, zvn, zHv_one, zHv_none]) (by (try dsimp only); first | lia | grind [zu_at, zu_atL, zvn, zHv_one, zHv_none])
set_option maxHeartbeats 4000000 in
set_option maxRecDepth 100000 in
theorem sf_X12_halve (w0_34 : Int64) (v0_38 : Int32) (v0_41 : Int32) (v0_42 : Int32) (v0_44 : Int32) (v0_45 : Int32) (f1 : Nat → Int32) (f2 : Nat → Int32) (f3 : Nat → Int32) (f4 : Nat → Int32) (f5 : Nat → Int32) (f6 : Nat → Int32) (f7 : Nat → Int32) (f8 : Nat → Int32) (f9 : Nat → Int32) (f10 : Nat → Int32) (f11 : Nat → Int32) (f12 : Nat → Int32) (f13 : Nat → Int64) (f14 : Nat → Int64) (f15 : Nat → Int64) (f16 : Nat → Int64) (f17 : Nat → Int64) (f18 : Nat → Int32) (f19 : Nat → Int32) (f20 : Nat → Int32) (f21 : Nat → Int32) (f22 : Nat → Int32) (f23 : Nat → Int32) (f24 : Nat → Int32) (f25 : Nat → Int32) (h_v0_38 : 0 ≤ v0_38 ∧ v0_38 ≤ 1) (h_f1 : (∀ i : Nat, 0 ≤ f1 i ∧ f1 i ≤ 14)) (h_f2 : (∀ i : Nat, 0 ≤ f2 i ∧ f2 i ≤ 13)) (h_f3 : (∀ i : Nat, (-1) ≤ f3 i ∧ f3 i ≤ 3)) (h_f4 : (∀ i : Nat, 0 ≤ f4 i ∧ f4 i ≤ 13)) (h_f5 : (∀ i : Nat, 0 ≤ f5 i ∧ f5 i ≤ 4)) (h_f7 : (∀ i : Nat, 0 ≤ f7 i ∧ f7 i ≤ 3)) (h_f8 : (∀ i : Nat, 0 ≤ f8 i ∧ f8 i ≤ 3)) (h_f9 : (∀ i : Nat, 0 ≤ f9 i ∧ f9 i ≤ 1)) (h_f11 : (∀ i : Nat, (-1) ≤ f11 i ∧ f11 i ≤ 13)) (h_f12 : (∀ i : Nat, (-1) ≤ f12 i ∧ f12 i ≤ 13)) (h_f20 : (∀ i : Nat, 0 ≤ f20 i ∧ f20 i ≤ 3)) (h_f23 : (∀ i : Nat, 0 ≤ f23 i ∧ f23 i ≤ 13)) (hx_0 : f1 (0 : Int32).toNatClampNeg ≤ 0 ∨ 1 ≤ f5 (0 : Int32).toNatClampNeg ∧ (∀ x : Int32, 0 ≤ x → x < f5 (0 : Int32).toNatClampNeg → 1 ≤ f6 x.toNatClampNeg) ∧ (∀ i : Nat, 1 ≤ f6 (f7 i).toNatClampNeg) ∧ (∀ i : Nat, 1 ≤ f6 (f8 i).toNatClampNeg) ∧ (∀ i : Nat, 1 ≤ f6 (f20 i).toNatClampNeg)) : zw (fn_X12_halve w0_34 v0_38 v0_41 v0_42 v0_44 v0_45 f1 f2 f3 f4 f5 f6 f7 f8 f9 f10 f11 f12 f13 f14 f15 f16 f17 f18 f19 f20 f21 f22 f23 f24 f25) (fun r => 0 ≤ r.1 ∧ r.1 ≤ 1 ∧ 0 ≤ r.2.1 ∧ r.2.1 ≤ 14 ∧ (∀ i : Nat, 0 ≤ r.2.2.2.2.2.2.2.1 i ∧ r.2.2.2.2.2.2.2.1 i ≤ 13) ∧ (∀ i : Nat, 0 ≤ r.2.2.2.2.2.2.2.2.1 i ∧ r.2.2.2.2.2.2.2.2.1 i ≤ 3) ∧ (∀ i : Nat, 0 ≤ r.2.2.2.2.2.2.2.2.2.1 i ∧ r.2.2.2.2.2.2.2.2.2.1 i ≤ 1) ∧ (∀ i : Nat, 0 ≤ r.2.2.2.2.2.2.2.2.2.2.2.2.2.1 i ∧ r.2.2.2.2.2.2.2.2.2.2.2.2.2.1 i ≤ 3) ∧ (∀ i : Nat, 0 ≤ r.2.2.2.2.2.2.2.2.2.2.2.2.2.2.1 i ∧ r.2.2.2.2.2.2.2.2.2.2.2.2.2.2.1 i ≤ 13) ∧ (-1) ≤ r.2.2.1 ∧ r.2.2.1 ≤ (-1) ∧ r.1 ≤ v0_38 ∧ r.1 ≤ (f1 (0 : Int32).toNatClampNeg) ∧ (r.1 = 0 → r.2.2.2.2.2.1 ≤ v0_44 ∧ v0_44 ≤ r.2.2.2.2.2.1 ∧ r.1 ≤ r.2.1 ∧ r.1 ≤ r.2.2.1 + 1) ∧ (¬ r.1 = 0 → 1 ≤ r.1 ∧ (f5 (0 : Int32).toNatClampNeg) ≤ 4 ∧ 1 ≤ (f5 (0 : Int32).toNatClampNeg)) ∧ (r.1 = 1 → 1 ≤ v0_38 ∧ v0_38 ≤ r.1 ∧ (f5 (0 : Int32).toNatClampNeg) ≤ 4 ∧ 1 ≤ (f5 (0 : Int32).toNatClampNeg)) ∧ (¬ r.1 = 1 → r.1 ≤ 0 ∧ r.2.2.2.2.2.1 ≤ v0_44 ∧ v0_44 ≤ r.2.2.2.2.2.1) ∧ (∀ i : Nat, r.2.2.2.2.2.2.2.2.1 i = f7 i ∨ r.2.2.2.2.2.2.2.2.1 i = f8 i ∨ r.2.2.2.2.2.2.2.2.1 i = f20 i ∨ 0 ≤ r.2.2.2.2.2.2.2.2.1 i ∧ r.2.2.2.2.2.2.2.2.1 i < f5 (0 : Int32).toNatClampNeg) ∧ (∀ i : Nat, r.2.2.2.2.2.2.2.2.2.2.2.2.2.1 i = f7 i ∨ r.2.2.2.2.2.2.2.2.2.2.2.2.2.1 i = f8 i ∨ r.2.2.2.2.2.2.2.2.2.2.2.2.2.1 i = f20 i ∨ 0 ≤ r.2.2.2.2.2.2.2.2.2.2.2.2.2.1 i ∧ r.2.2.2.2.2.2.2.2.2.2.2.2.2.1 i < f5 (0 : Int32).toNatClampNeg)) := by
  unfold fn_X12_halve
  refine zw_zb0 (sf_X12_laysFree f1 f2 f3 f4 (by first | with_reducible assumption | exact ⟨by with_reducible assumption, by with_reducible assumption⟩ | first | grind [zu_at, zu_atL, zvn] | lia) (by first | with_reducible assumption | exact ⟨by with_reducible assumption, by with_reducible assumption⟩ | first | grind [zu_at, zu_atL, zvn] | lia) (by first | with_reducible assumption | exact ⟨by with_reducible assumption, by with_reducible assumption⟩ | first | grind [zu_at, zu_atL, zvn] | lia) (by first | with_reducible assumption | exact ⟨by with_reducible assumption, by with_reducible assumption⟩ | first | grind [zu_at, zu_atL, zvn] | lia)) (fun o_1 ho_1 => ?_)
  obtain ⟨o_1_0, o_1_1⟩ := o_1
  try dsimp only at ho_1
  obtain ⟨ho_1_0, ho_1_1, ho_1_2⟩ := ho_1
  refine zw_zb0 (sf_X12_isThere v0_38 f1 (by first | with_reducible assumption | exact ⟨by with_reducible assumption, by with_reducible assumption⟩ | first | grind [zu_at, zu_atL, zvn] | lia) (by first | with_reducible assumption | exact ⟨by with_reducible assumption, by with_reducible assumption⟩ | first | grind [zu_at, zu_atL, zvn] | lia)) (fun o_5 ho_5 => ?_)
  obtain ⟨ho_5_0, ho_5_1, ho_5_2, ho_5_3, ho_5_4, ho_5_5⟩ := ho_5
  refine zw_if (fun c1 => ?_) (fun c1 => ?_)
  · refine zw_some ?_
    first | exact True.intro | ((try dsimp only); (repeat' apply And.intro) <;> first | with_reducible assumption | first | grind [zu_at, zu_atL, zvn] | lia)
  refine zw_zb0 (sf_X12_finest f5 f6 (by first | with_reducible assumption | exact ⟨by with_reducible assumption, by with_reducible assumption⟩ | first | grind [zu_at, zu_atL, zvn] | lia) (by first | with_reducible assumption | exact ⟨by with_reducible assumption, by with_reducible assumption⟩ | first | grind [zu_at, zu_atL, zvn] | lia) (by first | with_reducible assumption | exact ⟨by with_reducible assumption, by with_reducible assumption⟩ | first | grind [zu_at, zu_atL, zvn] | lia)) (fun o_10 ho_10 => ?_)
  obtain ⟨ho_10_0, ho_10_1, ho_10_2, ho_10_3⟩ := ho_10
  refine zw_zb0 (sf_X12_triesHand f1 f7 f8 (by first | with_reducible assumption | exact ⟨by with_reducible assumption, by with_reducible assumption⟩ | first | grind [zu_at, zu_atL, zvn] | lia) (by first | with_reducible assumption | exact ⟨by with_reducible assumption, by with_reducible assumption⟩ | first | grind [zu_at, zu_atL, zvn] | lia) (by first | with_reducible assumption | exact ⟨by with_reducible assumption, by with_reducible assumption⟩ | first | grind [zu_at, zu_atL, zvn] | lia)) (fun o_14 ho_14 => ?_)
  obtain ⟨ho_14_0, ho_14_1⟩ := ho_14
  refine zw_zl32 (fun s_18 => (∀ i : Nat, 0 ≤ s_18.2.1 i ∧ s_18.2.1 i ≤ 3) ∧ (∀ i : Nat, 0 ≤ s_18.2.2 i ∧ s_18.2.2 i ≤ 1) ∧ 0 ≤ s_18.1 ∧ s_18.1 ≤ 14 ∧ s_18.1 ≤ o_1_0 ∧ (∀ i : Nat, s_18.2.1 i = f7 i ∨ s_18.2.1 i = f8 i ∨ s_18.2.1 i = f20 i ∨ 0 ≤ s_18.2.1 i ∧ s_18.2.1 i < f5 (0 : Int32).toNatClampNeg)) (fun s_18 => 14 - s_18.1) (by (try dsimp only); (repeat' apply And.intro) <;> first | with_reducible assumption | first | grind [zu_at, zu_atL, zvn] | lia) (by (try dsimp only); first | grind [zu_at, zu_atL, zvn] | lia) (fun s_18 back_18 Hback_18 hback_18 => ?_)
  obtain ⟨s_18_0, s_18_1, s_18_2⟩ := s_18
  try dsimp only at Hback_18 hback_18
  obtain ⟨Hback_18_0, Hback_18_1, Hback_18_2, Hback_18_3, Hback_18_4, Hback_18_5⟩ := Hback_18
  refine zw_if (fun c2 => ?_) (fun c2 => ?_)
  · refine zw_zb0 (sf_X12_passes (-1) w0_34 f1 f10 f11 f12 f13 f14 f15 f16 s_18_1 f6 f17 f18 f19 (by first | with_reducible assumption | exact ⟨by with_reducible assumption, by with_reducible assumption⟩ | ((try clear hback_18); first | grind [zu_at, zu_atL, zvn] | lia)) (by first | with_reducible assumption | exact ⟨by with_reducible assumption, by with_reducible assumption⟩ | ((try clear hback_18); first | grind [zu_at, zu_atL, zvn] | lia)) (by first | with_reducible assumption | exact ⟨by with_reducible assumption, by with_reducible assumption⟩ | ((try clear hback_18); first | grind [zu_at, zu_atL, zvn] | lia)) (by first | with_reducible assumption | exact ⟨by with_reducible assumption, by with_reducible assumption⟩ | ((try clear hback_18); first | grind [zu_at, zu_atL, zvn] | lia)) (by first | with_reducible assumption | exact ⟨by with_reducible assumption, by with_reducible assumption⟩ | ((try clear hback_18); first | grind [zu_at, zu_atL, zvn] | lia))) (fun o_20 ho_20 => ?_)
    obtain ⟨o_20_0, o_20_1, o_20_2, o_20_3, o_20_4, o_20_5⟩ := o_20
    try dsimp only at ho_20
    obtain ⟨ho_20_0, ho_20_1, ho_20_2, ho_20_3, ho_20_4, ho_20_5, ho_20_6, ho_20_7, ho_20_8, ho_20_9, ho_20_10, ho_20_11, ho_20_12⟩ := ho_20
    refine zw_if (fun c3 => ?_) (fun c3 => ?_)
    · refine zw_some ?_
      first | exact True.intro | ((try dsimp only); (repeat' apply And.intro) <;> first | with_reducible assumption | ((try clear hback_18); first | grind [zu_at, zu_atL, zvn] | lia))
    refine zw_zb0 (sf_X12_keepsTried f1 s_18_1 f20 f21 f11 f12 f22 (by first | with_reducible assumption | exact ⟨by with_reducible assumption, by with_reducible assumption⟩ | ((try clear hback_18); first | grind [zu_at, zu_atL, zvn] | lia)) (by first | with_reducible assumption | exact ⟨by with_reducible assumption, by with_reducible assumption⟩ | ((try clear hback_18); first | grind [zu_at, zu_atL, zvn] | lia)) (by first | with_reducible assumption | exact ⟨by with_reducible assumption, by with_reducible assumption⟩ | ((try clear hback_18); first | grind [zu_at, zu_atL, zvn] | lia)) (by first | with_reducible assumption | exact ⟨by with_reducible assumption, by with_reducible assumption⟩ | ((try clear hback_18); first | grind [zu_at, zu_atL, zvn] | lia)) (by first | with_reducible assumption | exact ⟨by with_reducible assumption, by with_reducible assumption⟩ | ((try clear hback_18); first | grind [zu_at, zu_atL, zvn] | lia))) (fun o_25 ho_25 => ?_)
    obtain ⟨o_25_0, o_25_1⟩ := o_25
    try dsimp only at ho_25
    obtain ⟨ho_25_0, ho_25_1⟩ := ho_25
    refine zw_zl32 (fun s_29 => (∀ i : Nat, 0 ≤ s_29.2.2.2.2.2.2.2.1 i ∧ s_29.2.2.2.2.2.2.2.1 i ≤ 3) ∧ (∀ i : Nat, 0 ≤ s_29.2.2.2.2.2.2.2.2.2.1 i ∧ s_29.2.2.2.2.2.2.2.2.2.1 i ≤ 3) ∧ (∀ i : Nat, 0 ≤ s_29.2.2.2.2.2.2.2.2.2.2.1 i ∧ s_29.2.2.2.2.2.2.2.2.2.2.1 i ≤ 1) ∧ (∀ i : Nat, 0 ≤ s_29.2.2.2.2.2.2.2.2.2.2.2.1 i ∧ s_29.2.2.2.2.2.2.2.2.2.2.2.1 i ≤ 13) ∧ 0 ≤ s_29.1 ∧ s_29.1 ≤ 4 ∧ s_29.1 ≤ (f5 (0 : Int32).toNatClampNeg) ∧ (∀ i : Nat, s_29.2.2.2.2.2.2.2.1 i = f7 i ∨ s_29.2.2.2.2.2.2.2.1 i = f8 i ∨ s_29.2.2.2.2.2.2.2.1 i = f20 i ∨ 0 ≤ s_29.2.2.2.2.2.2.2.1 i ∧ s_29.2.2.2.2.2.2.2.1 i < f5 (0 : Int32).toNatClampNeg) ∧ (∀ i : Nat, s_29.2.2.2.2.2.2.2.2.2.1 i = f7 i ∨ s_29.2.2.2.2.2.2.2.2.2.1 i = f8 i ∨ s_29.2.2.2.2.2.2.2.2.2.1 i = f20 i ∨ 0 ≤ s_29.2.2.2.2.2.2.2.2.2.1 i ∧ s_29.2.2.2.2.2.2.2.2.2.1 i < f5 (0 : Int32).toNatClampNeg)) (fun s_29 => 4 - s_29.1) (by (try dsimp only); (repeat' apply And.intro) <;> first | with_reducible assumption | ((try clear hback_18); first | grind [zu_at, zu_atL, zvn] | lia)) (by (try dsimp only); ((try clear hback_18); first | grind [zu_at, zu_atL, zvn] | lia)) (fun s_29 back_29 Hback_29 hback_29 => ?_)
    obtain ⟨s_29_0, s_29_1, s_29_2, s_29_3, s_29_4, s_29_5, s_29_6, s_29_7, s_29_8, s_29_9, s_29_10, s_29_11, s_29_12, s_29_13⟩ := s_29
    try dsimp only at Hback_29 hback_29
    obtain ⟨Hback_29_0, Hback_29_1, Hback_29_2, Hback_29_3, Hback_29_4, Hback_29_5, Hback_29_6, Hback_29_7, Hback_29_8⟩ := Hback_29
    refine zw_if (fun c4 => ?_) (fun c4 => ?_)
    · refine zw_some ?_
      first | exact True.intro | ((try dsimp only); (repeat' apply And.intro) <;> first | with_reducible assumption | ((try clear hback_18); (try clear hback_29); first | grind [zu_at, zu_atL, zvn] | lia))
    refine zw_if (fun c5 => ?_) (fun c5 => ?_)
    · exact hback_29 _ (by (try dsimp only); (repeat' apply And.intro) <;> first | with_reducible assumption | ((try clear hback_18); (try clear hback_29); first | grind [zu_at, zu_atL, zvn] | lia)) (by (try dsimp only); ((try clear hback_18); (try clear hback_29); first | grind [zu_at, zu_atL, zvn] | lia)) (by (try dsimp only); ((try clear hback_18); (try clear hback_29); first | grind [zu_at, zu_atL, zvn] | lia))
    refine zw_zb0 (sf_X12_halvesBy s_29_0 o_1_0 (-1) w0_34 s_29_1 s_29_2 s_29_3 s_29_4 s_29_10 s_29_11 s_29_12 s_29_13 f1 s_29_9 s_29_7 o_1_1 f2 f10 f11 f12 s_29_5 f14 f15 s_29_6 f6 s_29_8 f18 f19 f21 f22 (by first | with_reducible assumption | exact ⟨by with_reducible assumption, by with_reducible assumption⟩ | ((try clear hback_18); (try clear hback_29); first | grind [zu_at, zu_atL, zvn] | lia)) (by first | with_reducible assumption | exact ⟨by with_reducible assumption, by with_reducible assumption⟩ | ((try clear hback_18); (try clear hback_29); first | grind [zu_at, zu_atL, zvn] | lia)) (by first | with_reducible assumption | exact ⟨by with_reducible assumption, by with_reducible assumption⟩ | ((try clear hback_18); (try clear hback_29); first | grind [zu_at, zu_atL, zvn] | lia)) (by first | with_reducible assumption | exact ⟨by with_reducible assumption, by with_reducible assumption⟩ | ((try clear hback_18); (try clear hback_29); first | grind [zu_at, zu_atL, zvn] | lia)) (by first | with_reducible assumption | exact ⟨by with_reducible assumption, by with_reducible assumption⟩ | ((try clear hback_18); (try clear hback_29); first | grind [zu_at, zu_atL, zvn] | lia)) (by first | with_reducible assumption | exact ⟨by with_reducible assumption, by with_reducible assumption⟩ | ((try clear hback_18); (try clear hback_29); first | grind [zu_at, zu_atL, zvn] | lia)) (by first | with_reducible assumption | exact ⟨by with_reducible assumption, by with_reducible assumption⟩ | ((try clear hback_18); (try clear hback_29); first | grind [zu_at, zu_atL, zvn] | lia)) (by first | with_reducible assumption | exact ⟨by with_reducible assumption, by with_reducible assumption⟩ | ((try clear hback_18); (try clear hback_29); first | grind [zu_at, zu_atL, zvn] | lia)) (by first | with_reducible assumption | exact ⟨by with_reducible assumption, by with_reducible assumption⟩ | ((try clear hback_18); (try clear hback_29); first | grind [zu_at, zu_atL, zvn] | lia)) (by first | with_reducible assumption | exact ⟨by with_reducible assumption, by with_reducible assumption⟩ | ((try clear hback_18); (try clear hback_29); first | grind [zu_at, zu_atL, zvn] | lia)) (by first | with_reducible assumption | exact ⟨by with_reducible assumption, by with_reducible assumption⟩ | ((try clear hback_18); (try clear hback_29); first | grind [zu_at, zu_atL, zvn] | lia)) (by first | with_reducible assumption | exact ⟨by with_reducible assumption, by with_reducible assumption⟩ | ((try clear hback_18); (try clear hback_29); first | grind [zu_at, zu_atL, zvn] | lia)) (by first | with_reducible assumption | exact ⟨by with_reducible assumption, by with_reducible assumption⟩ | ((try clear hback_18); (try clear hback_29); first | grind [zu_at, zu_atL, zvn] | lia)) (by first | with_reducible assumption | exact ⟨by with_reducible assumption, by with_reducible assumption⟩ | ((try clear hback_18); (try clear hback_29); first | grind [zu_at, zu_atL, zvn] | lia))) (fun o_32 ho_32 => ?_)
    obtain ⟨o_32_0, o_32_1, o_32_2, o_32_3, o_32_4, o_32_5, o_32_6, o_32_7, o_32_8, o_32_9, o_32_10, o_32_11, o_32_12⟩ := o_32
    try dsimp only at ho_32
    obtain ⟨ho_32_0, ho_32_1, ho_32_2, ho_32_3, ho_32_4, ho_32_5⟩ := ho_32
    exact hback_29 _ (by (try dsimp only); (repeat' apply And.intro) <;> first | with_reducible assumption | ((try clear hback_18); (try clear hback_29); first | grind [zu_at, zu_atL, zvn] | lia)) (by (try dsimp only); ((try clear hback_18); (try clear hback_29); first | grind [zu_at, zu_atL, zvn] | lia)) (by (try dsimp only); ((try clear hback_18); (try clear hback_29); first | grind [zu_at, zu_atL, zvn] | lia))
  refine zw_zg32 14 (by decide) (by (try dsimp only); ((try clear hback_18); (try clear hback_29); first | grind [zu_at, zu_atL, zvn] | lia)) ?_
  refine zw_zb0 (sf_X12_triesGroup (o_1_1 s_18_0.toNatClampNeg) o_10 f1 f2 s_18_1 (by first | with_reducible assumption | exact ⟨by with_reducible assumption, by with_reducible assumption⟩ | ((try clear hback_18); (try clear hback_29); first | grind [zu_at, zu_atL, zvn] | lia)) (by first | with_reducible assumption | exact ⟨by with_reducible assumption, by with_reducible assumption⟩ | ((try clear hback_18); (try clear hback_29); first | grind [zu_at, zu_atL, zvn] | lia)) (by first | with_reducible assumption | exact ⟨by with_reducible assumption, by with_reducible assumption⟩ | ((try clear hback_18); (try clear hback_29); first | grind [zu_at, zu_atL, zvn] | lia)) (by first | with_reducible assumption | exact ⟨by with_reducible assumption, by with_reducible assumption⟩ | ((try clear hback_18); (try clear hback_29); first | grind [zu_at, zu_atL, zvn] | lia))) (fun o_37 ho_37 => ?_)
  obtain ⟨ho_37_0, ho_37_1⟩ := ho_37
  exact hback_18 _ (by (try dsimp only); (repeat' apply And.intro) <;> first | with_reducible assumption | ((try clear hback_18); (try clear hback_29); first | grind [zu_at, zu_atL, zvn] | lia)) (by (try dsimp only); ((try clear hback_18); (try clear hback_29); first | grind [zu_at, zu_atL, zvn] | lia)) (by (try dsimp only); ((try clear hback_18); (try clear hback_29); first | grind [zu_at, zu_atL, zvn] | lia))
set_option maxHeartbeats 4000000 in
set_option maxRecDepth 100000 in
theorem sf_X12_halves (p1 : Int32) (v0_30 : Int32) (v0_33 : Int32) (w0_34 : Int64) (v0_38 : Int32) (v0_41 : Int32) (v0_42 : Int32) (v0_44 : Int32) (v0_45 : Int32) (f1 : Nat → Int32) (f2 : Nat → Int32) (f3 : Nat → Int32) (f4 : Nat → Int32) (f5 : Nat → Int32) (f6 : Nat → Int32) (f7 : Nat → Int32) (f8 : Nat → Int32) (f9 : Nat → Int32) (f10 : Nat → Int32) (f11 : Nat → Int32) (f12 : Nat → Int32) (f13 : Nat → Int64) (f14 : Nat → Int64) (f15 : Nat → Int64) (f16 : Nat → Int64) (f17 : Nat → Int64) (f18 : Nat → Int32) (f19 : Nat → Int32) (f20 : Nat → Int32) (f21 : Nat → Int32) (f22 : Nat → Int32) (f23 : Nat → Int32) (f24 : Nat → Int32) (f25 : Nat → Int32) (h_v0_30 : 0 ≤ v0_30 ∧ v0_30 ≤ 14) (h_v0_38 : 0 ≤ v0_38 ∧ v0_38 ≤ 1) (h_f1 : (∀ i : Nat, 0 ≤ f1 i ∧ f1 i ≤ 14)) (h_f2 : (∀ i : Nat, 0 ≤ f2 i ∧ f2 i ≤ 13)) (h_f3 : (∀ i : Nat, (-1) ≤ f3 i ∧ f3 i ≤ 3)) (h_f4 : (∀ i : Nat, 0 ≤ f4 i ∧ f4 i ≤ 13)) (h_f5 : (∀ i : Nat, 0 ≤ f5 i ∧ f5 i ≤ 4)) (h_f7 : (∀ i : Nat, 0 ≤ f7 i ∧ f7 i ≤ 3)) (h_f8 : (∀ i : Nat, 0 ≤ f8 i ∧ f8 i ≤ 3)) (h_f9 : (∀ i : Nat, 0 ≤ f9 i ∧ f9 i ≤ 1)) (h_f11 : (∀ i : Nat, (-1) ≤ f11 i ∧ f11 i ≤ 13)) (h_f12 : (∀ i : Nat, (-1) ≤ f12 i ∧ f12 i ≤ 13)) (h_f20 : (∀ i : Nat, 0 ≤ f20 i ∧ f20 i ≤ 3)) (h_f23 : (∀ i : Nat, 0 ≤ f23 i ∧ f23 i ≤ 13)) (hx_0 : f1 (0 : Int32).toNatClampNeg ≤ 0 ∨ 1 ≤ f5 (0 : Int32).toNatClampNeg ∧ (∀ x : Int32, 0 ≤ x → x < f5 (0 : Int32).toNatClampNeg → 1 ≤ f6 x.toNatClampNeg) ∧ (∀ i : Nat, 1 ≤ f6 (f7 i).toNatClampNeg) ∧ (∀ i : Nat, 1 ≤ f6 (f8 i).toNatClampNeg) ∧ (∀ i : Nat, 1 ≤ f6 (f20 i).toNatClampNeg)) : zw (fn_X12_halves p1 v0_30 v0_33 w0_34 v0_38 v0_41 v0_42 v0_44 v0_45 f1 f2 f3 f4 f5 f6 f7 f8 f9 f10 f11 f12 f13 f14 f15 f16 f17 f18 f19 f20 f21 f22 f23 f24 f25) (fun r => 0 ≤ r.2.1 ∧ r.2.1 ≤ 14 ∧ (∀ i : Nat, 0 ≤ r.2.2.2.2.2.2.2.1 i ∧ r.2.2.2.2.2.2.2.1 i ≤ 13) ∧ (∀ i : Nat, 0 ≤ r.2.2.2.2.2.2.2.2.1 i ∧ r.2.2.2.2.2.2.2.2.1 i ≤ 3) ∧ (∀ i : Nat, 0 ≤ r.2.2.2.2.2.2.2.2.2.1 i ∧ r.2.2.2.2.2.2.2.2.2.1 i ≤ 1) ∧ (∀ i : Nat, 0 ≤ r.2.2.2.2.2.2.2.2.2.2.2.2.2.1 i ∧ r.2.2.2.2.2.2.2.2.2.2.2.2.2.1 i ≤ 3) ∧ (∀ i : Nat, 0 ≤ r.2.2.2.2.2.2.2.2.2.2.2.2.2.2.1 i ∧ r.2.2.2.2.2.2.2.2.2.2.2.2.2.2.1 i ≤ 13) ∧ (∀ i : Nat, r.2.2.2.2.2.2.2.2.1 i = f7 i ∨ r.2.2.2.2.2.2.2.2.1 i = f8 i ∨ r.2.2.2.2.2.2.2.2.1 i = f20 i ∨ 0 ≤ r.2.2.2.2.2.2.2.2.1 i ∧ r.2.2.2.2.2.2.2.2.1 i < f5 (0 : Int32).toNatClampNeg) ∧ (∀ i : Nat, r.2.2.2.2.2.2.2.2.2.2.2.2.2.1 i = f7 i ∨ r.2.2.2.2.2.2.2.2.2.2.2.2.2.1 i = f8 i ∨ r.2.2.2.2.2.2.2.2.2.2.2.2.2.1 i = f20 i ∨ 0 ≤ r.2.2.2.2.2.2.2.2.2.2.2.2.2.1 i ∧ r.2.2.2.2.2.2.2.2.2.2.2.2.2.1 i < f5 (0 : Int32).toNatClampNeg)) := by
  unfold fn_X12_halves
  refine zw_zj (fun _ => (-2) ≤ p1 ∧ p1 ≤ 13) (fun s_1 Hj_1 => ?_) (fun j_1 hj_1 => ?_)
  · obtain ⟨Hj_1_0, Hj_1_1⟩ := Hj_1
    refine zw_zb0 (sf_X12_halve w0_34 v0_38 v0_41 v0_42 v0_44 v0_45 f1 f2 f3 f4 f5 f6 f7 f8 f9 f10 f11 f12 f13 f14 f15 f16 f17 f18 f19 f20 f21 f22 f23 f24 f25 (by first | with_reducible assumption | exact ⟨by with_reducible assumption, by with_reducible assumption⟩ | ((try clear hj_1); first | lia | grind [zu_at, zu_atL, zvn])) (by first | with_reducible assumption | exact ⟨by with_reducible assumption, by with_reducible assumption⟩ | ((try clear hj_1); first | lia | grind [zu_at, zu_atL, zvn])) (by first | with_reducible assumption | exact ⟨by with_reducible assumption, by with_reducible assumption⟩ | ((try clear hj_1); first | lia | grind [zu_at, zu_atL, zvn])) (by first | with_reducible assumption | exact ⟨by with_reducible assumption, by with_reducible assumption⟩ | ((try clear hj_1); first | lia | grind [zu_at, zu_atL, zvn])) (by first | with_reducible assumption | exact ⟨by with_reducible assumption, by with_reducible assumption⟩ | ((try clear hj_1); first | lia | grind [zu_at, zu_atL, zvn])) (by first | with_reducible assumption | exact ⟨by with_reducible assumption, by with_reducible assumption⟩ | ((try clear hj_1); first | lia | grind [zu_at, zu_atL, zvn])) (by first | with_reducible assumption | exact ⟨by with_reducible assumption, by with_reducible assumption⟩ | ((try clear hj_1); first | lia | grind [zu_at, zu_atL, zvn])) (by first | with_reducible assumption | exact ⟨by with_reducible assumption, by with_reducible assumption⟩ | ((try clear hj_1); first | lia | grind [zu_at, zu_atL, zvn])) (by first | with_reducible assumption | exact ⟨by with_reducible assumption, by with_reducible assumption⟩ | ((try clear hj_1); first | lia | grind [zu_at, zu_atL, zvn])) (by first | with_reducible assumption | exact ⟨by with_reducible assumption, by with_reducible assumption⟩ | ((try clear hj_1); first | lia | grind [zu_at, zu_atL, zvn])) (by first | with_reducible assumption | exact ⟨by with_reducible assumption, by with_reducible assumption⟩ | ((try clear hj_1); first | lia | grind [zu_at, zu_atL, zvn])) (by first | with_reducible assumption | exact ⟨by with_reducible assumption, by with_reducible assumption⟩ | ((try clear hj_1); first | lia | grind [zu_at, zu_atL, zvn])) (by first | with_reducible assumption | exact ⟨by with_reducible assumption, by with_reducible assumption⟩ | ((try clear hj_1); first | lia | grind [zu_at, zu_atL, zvn])) (by first | with_reducible assumption | exact ⟨by with_reducible assumption, by with_reducible assumption⟩ | ((try clear hj_1); first | lia | grind [zu_at, zu_atL, zvn]))) (fun o_2 ho_2 => ?_)
    obtain ⟨o_2_0, o_2_1, o_2_2, o_2_3, o_2_4, o_2_5, o_2_6, o_2_7, o_2_8, o_2_9, o_2_10, o_2_11, o_2_12, o_2_13, o_2_14, o_2_15, o_2_16⟩ := o_2
    try dsimp only at ho_2
    obtain ⟨ho_2_0, ho_2_1, ho_2_2, ho_2_3, ho_2_4, ho_2_5, ho_2_6, ho_2_7, ho_2_8, ho_2_9, ho_2_10, ho_2_11, ho_2_12, ho_2_13, ho_2_14, ho_2_15, ho_2_16, ho_2_17, ho_2_18⟩ := ho_2
    refine zw_if (fun c1 => ?_) (fun c1 => ?_)
    · refine zw_some ?_
      first | exact True.intro | ((try dsimp only); (repeat' apply And.intro) <;> first | with_reducible assumption | ((try clear hj_1); first | lia | grind [zu_at, zu_atL, zvn]))
    refine zw_if (fun c2 => ?_) (fun c2 => ?_)
    · refine zw_some ?_
      first | exact True.intro | ((try dsimp only); (repeat' apply And.intro) <;> first | with_reducible assumption | ((try clear hj_1); first | lia | grind [zu_at, zu_atL, zvn]))
    refine zw_if (fun c3 => ?_) (fun c3 => ?_)
    · refine zw_some ?_
      first | exact True.intro | ((try dsimp only); (repeat' apply And.intro) <;> first | with_reducible assumption | ((try clear hj_1); first | lia | grind [zu_at, zu_atL, zvn]))
    refine zw_zg32 14 (by decide) (by (try dsimp only); ((try clear hj_1); first | lia | grind [zu_at, zu_atL, zvn])) ?_
    refine zw_some ?_
    first | exact True.intro | ((try dsimp only); (repeat' apply And.intro) <;> first | with_reducible assumption | ((try clear hj_1); first | lia | grind [zu_at, zu_atL, zvn]))
  refine zw_if (fun c4 => ?_) (fun c4 => ?_)
  · exact hj_1 _ (by first | exact True.intro | ((try dsimp only); (repeat' apply And.intro) <;> first | with_reducible assumption | ((try clear hj_1); first | lia | grind [zu_at, zu_atL, zvn])))
  refine zw_if (fun c5 => ?_) (fun c5 => ?_)
  · exact hj_1 _ (by first | exact True.intro | ((try dsimp only); (repeat' apply And.intro) <;> first | with_reducible assumption | ((try clear hj_1); first | lia | grind [zu_at, zu_atL, zvn])))
  refine zw_zb0 (sf_X12_isNumber p1 f1 (by first | with_reducible assumption | exact ⟨by with_reducible assumption, by with_reducible assumption⟩ | ((try clear hj_1); first | lia | grind [zu_at, zu_atL, zvn]))) (fun o_12 ho_12 => ?_)
  obtain ⟨ho_12_0, ho_12_1, ho_12_2, ho_12_3, ho_12_4, ho_12_5⟩ := ho_12
  refine zw_if (fun c6 => ?_) (fun c6 => ?_)
  · refine zw_some ?_
    first | exact True.intro | ((try dsimp only); (repeat' apply And.intro) <;> first | with_reducible assumption | ((try clear hj_1); first | lia | grind [zu_at, zu_atL, zvn]))
  exact hj_1 _ (by first | exact True.intro | ((try dsimp only); (repeat' apply And.intro) <;> first | with_reducible assumption | ((try clear hj_1); first | lia | grind [zu_at, zu_atL, zvn])))
set_option maxHeartbeats 4000000 in
set_option maxRecDepth 100000 in
theorem sf_X12_laysSingle (w0_34 : Int64) (v0_41 : Int32) (v0_42 : Int32) (f1 : Nat → Int32) (f2 : Nat → Int32) (f3 : Nat → Int32) (f4 : Nat → Int32) (f5 : Nat → Int32) (f6 : Nat → Int32) (f7 : Nat → Int32) (f8 : Nat → Int32) (f9 : Nat → Int32) (f10 : Nat → Int32) (f11 : Nat → Int32) (f12 : Nat → Int32) (f13 : Nat → Int64) (f14 : Nat → Int64) (f15 : Nat → Int64) (f16 : Nat → Int64) (f17 : Nat → Int32) (f18 : Nat → Int64) (f19 : Nat → Int32) (f20 : Nat → Int32) (h_f1 : (∀ i : Nat, 0 ≤ f1 i ∧ f1 i ≤ 14)) (h_f2 : (∀ i : Nat, 0 ≤ f2 i ∧ f2 i ≤ 13)) (h_f3 : (∀ i : Nat, (-1) ≤ f3 i ∧ f3 i ≤ 3)) (h_f4 : (∀ i : Nat, 0 ≤ f4 i ∧ f4 i ≤ 13)) (h_f5 : (∀ i : Nat, 0 ≤ f5 i ∧ f5 i ≤ 3)) (h_f6 : (∀ i : Nat, 0 ≤ f6 i ∧ f6 i ≤ 3)) (h_f8 : (∀ i : Nat, (-1) ≤ f8 i ∧ f8 i ≤ 13)) (h_f9 : (∀ i : Nat, (-1) ≤ f9 i ∧ f9 i ≤ 13)) (h_f11 : (∀ i : Nat, 0 ≤ f11 i ∧ f11 i ≤ 4)) (hr_0 : 1 ≤ (f11 (0 : Int32).toNatClampNeg)) (hx_0 : (∀ x : Int32, 0 ≤ x → x < f11 (0 : Int32).toNatClampNeg → 1 ≤ f17 x.toNatClampNeg)) (hx_1 : (∀ i : Nat, 1 ≤ f17 (f5 i).toNatClampNeg)) (hx_2 : (∀ i : Nat, 1 ≤ f17 (f6 i).toNatClampNeg)) : zw (fn_X12_laysSingle w0_34 v0_41 v0_42 f1 f2 f3 f4 f5 f6 f7 f8 f9 f10 f11 f12 f13 f14 f15 f16 f17 f18 f19 f20) (fun r => 0 ≤ r.1 ∧ r.1 ≤ 14 ∧ (-1) ≤ r.2.2.2.2.2.2.1 ∧ r.2.2.2.2.2.2.1 ≤ 13 ∧ (-1) ≤ r.2.2.2.2.2.2.2.1 ∧ r.2.2.2.2.2.2.2.1 ≤ 3 ∧ (∀ i : Nat, 0 ≤ r.2.2.2.2.2.2.2.2.1 i ∧ r.2.2.2.2.2.2.2.2.1 i ≤ 13) ∧ (∀ i : Nat, 0 ≤ r.2.2.2.2.2.2.2.2.2.1 i ∧ r.2.2.2.2.2.2.2.2.2.1 i ≤ 3) ∧ (-1) ≤ r.2.1 ∧ r.2.1 ≤ (-1) ∧ r.2.2.2.2.2.2.2.1 ≤ r.1 + 2 ∧ r.2.2.2.2.2.2.2.1 ≤ r.2.2.2.2.2.2.1 + 3 ∧ r.2.1 < (f1 (0 : Int32).toNatClampNeg) ∧ r.2.2.2.2.2.2.2.1 < (f11 (0 : Int32).toNatClampNeg) ∧ (∀ i : Nat, r.2.2.2.2.2.2.2.2.2.1 i = f5 i ∨ r.2.2.2.2.2.2.2.2.2.1 i = f6 i ∨ 0 ≤ r.2.2.2.2.2.2.2.2.2.1 i ∧ r.2.2.2.2.2.2.2.2.2.1 i < f11 (0 : Int32).toNatClampNeg) ∧ (r.2.2.2.2.2.2.1 = (-1) ∨ 0 ≤ r.2.2.2.2.2.2.2.1 ∧ r.2.2.2.2.2.2.2.1 < f11 (0 : Int32).toNatClampNeg)) := by
  unfold fn_X12_laysSingle
  refine zw_zb0 (sf_X12_laysFree f1 f2 f3 f4 (by first | with_reducible assumption | exact ⟨by with_reducible assumption, by with_reducible assumption⟩ | first | grind [zu_at, zu_atL, zvn] | lia) (by first | with_reducible assumption | exact ⟨by with_reducible assumption, by with_reducible assumption⟩ | first | grind [zu_at, zu_atL, zvn] | lia) (by first | with_reducible assumption | exact ⟨by with_reducible assumption, by with_reducible assumption⟩ | first | grind [zu_at, zu_atL, zvn] | lia) (by first | with_reducible assumption | exact ⟨by with_reducible assumption, by with_reducible assumption⟩ | first | grind [zu_at, zu_atL, zvn] | lia)) (fun o_1 ho_1 => ?_)
  obtain ⟨o_1_0, o_1_1⟩ := o_1
  try dsimp only at ho_1
  obtain ⟨ho_1_0, ho_1_1, ho_1_2⟩ := ho_1
  refine zw_zb0 (sf_X12_triesHand f1 f5 f6 (by first | with_reducible assumption | exact ⟨by with_reducible assumption, by with_reducible assumption⟩ | first | grind [zu_at, zu_atL, zvn] | lia) (by first | with_reducible assumption | exact ⟨by with_reducible assumption, by with_reducible assumption⟩ | first | grind [zu_at, zu_atL, zvn] | lia) (by first | with_reducible assumption | exact ⟨by with_reducible assumption, by with_reducible assumption⟩ | first | grind [zu_at, zu_atL, zvn] | lia)) (fun o_5 ho_5 => ?_)
  obtain ⟨ho_5_0, ho_5_1⟩ := ho_5
  refine zw_zb0 (sf_X12_costTried f7 f1 f8 o_5 f9 f10 (by first | with_reducible assumption | exact ⟨by with_reducible assumption, by with_reducible assumption⟩ | first | grind [zu_at, zu_atL, zvn] | lia) (by first | with_reducible assumption | exact ⟨by with_reducible assumption, by with_reducible assumption⟩ | first | grind [zu_at, zu_atL, zvn] | lia) (by first | with_reducible assumption | exact ⟨by with_reducible assumption, by with_reducible assumption⟩ | first | grind [zu_at, zu_atL, zvn] | lia) (by first | with_reducible assumption | exact ⟨by with_reducible assumption, by with_reducible assumption⟩ | first | grind [zu_at, zu_atL, zvn] | lia)) (fun o_9 ho_9 => ?_)
  refine zw_zl32 (fun s_13 => (s_13.2.2.2.2.2.2.1 = (-1) ∨ 0 ≤ s_13.2.2.2.2.2.2.2.1 ∧ s_13.2.2.2.2.2.2.2.1 < f11 (0 : Int32).toNatClampNeg) ∧ (∀ i : Nat, 0 ≤ s_13.2.2.2.2.2.2.2.2.2.2.1 i ∧ s_13.2.2.2.2.2.2.2.2.2.2.1 i ≤ 3) ∧ 0 ≤ s_13.2.1 ∧ s_13.2.1 ≤ 14 ∧ (-1) ≤ s_13.2.2.2.2.2.2.1 ∧ s_13.2.2.2.2.2.2.1 ≤ 13 ∧ (-1) ≤ s_13.2.2.2.2.2.2.2.1 ∧ s_13.2.2.2.2.2.2.2.1 ≤ 3 ∧ s_13.1 ≤ o_9 ∧ s_13.2.1 ≤ o_1_0 ∧ s_13.2.2.2.2.2.2.2.1 ≤ o_1_0 + 2 ∧ s_13.2.2.2.2.2.2.2.1 ≤ s_13.2.1 + 2 ∧ s_13.2.2.2.2.2.2.2.1 ≤ s_13.2.2.2.2.2.2.1 + 3 ∧ s_13.2.2.2.2.2.2.2.1 < (f11 (0 : Int32).toNatClampNeg) ∧ (∀ i : Nat, s_13.2.2.2.2.2.2.2.2.2.2.1 i = f5 i ∨ s_13.2.2.2.2.2.2.2.2.2.2.1 i = f6 i ∨ 0 ≤ s_13.2.2.2.2.2.2.2.2.2.2.1 i ∧ s_13.2.2.2.2.2.2.2.2.2.2.1 i < f11 (0 : Int32).toNatClampNeg)) (fun s_13 => 14 - s_13.2.1) (by (try dsimp only); (repeat' apply And.intro) <;> first | with_reducible assumption | first | grind [zu_at, zu_atL, zvn] | lia) (by (try dsimp only); first | grind [zu_at, zu_atL, zvn] | lia) (fun s_13 back_13 Hback_13 hback_13 => ?_)
  obtain ⟨s_13_0, s_13_1, s_13_2, s_13_3, s_13_4, s_13_5, s_13_6, s_13_7, s_13_8, s_13_9, s_13_10, s_13_11⟩ := s_13
  try dsimp only at Hback_13 hback_13
  obtain ⟨Hback_13_0, Hback_13_1, Hback_13_2, Hback_13_3, Hback_13_4, Hback_13_5, Hback_13_6, Hback_13_7, Hback_13_8, Hback_13_9, Hback_13_10, Hback_13_11, Hback_13_12, Hback_13_13, Hback_13_14⟩ := Hback_13
  refine zw_if (fun c1 => ?_) (fun c1 => ?_)
  · refine zw_some ?_
    first | exact True.intro | ((try dsimp only); (repeat' apply And.intro) <;> first | with_reducible assumption | ((try clear hback_13); first | grind [zu_at, zu_atL, zvn] | lia))
  refine zw_zl32 (fun s_15 => (s_15.2.2.2.2.2.2.1 = (-1) ∨ 0 ≤ s_15.2.2.2.2.2.2.2.1 ∧ s_15.2.2.2.2.2.2.2.1 < f11 (0 : Int32).toNatClampNeg) ∧ (∀ i : Nat, 0 ≤ s_15.2.2.2.2.2.2.2.2.2.2.1 i ∧ s_15.2.2.2.2.2.2.2.2.2.2.1 i ≤ 3) ∧ 0 ≤ s_15.2.1 ∧ s_15.2.1 ≤ 4 ∧ (-1) ≤ s_15.2.2.2.2.2.2.1 ∧ s_15.2.2.2.2.2.2.1 ≤ 13 ∧ (-1) ≤ s_15.2.2.2.2.2.2.2.1 ∧ s_15.2.2.2.2.2.2.2.1 ≤ 3 ∧ s_15.1 ≤ o_9 ∧ s_15.1 ≤ s_13_0 ∧ s_13_7 ≤ s_15.2.2.2.2.2.2.1 + 3 ∧ s_15.2.2.2.2.2.2.2.1 ≤ s_15.2.2.2.2.2.2.1 + 3 ∧ s_13_7 ≤ s_15.2.2.2.2.2.2.2.1 + 3 ∧ s_15.2.1 ≤ (f11 (0 : Int32).toNatClampNeg) ∧ s_15.2.2.2.2.2.2.2.1 < (f11 (0 : Int32).toNatClampNeg) ∧ (∀ i : Nat, s_15.2.2.2.2.2.2.2.2.2.2.1 i = f5 i ∨ s_15.2.2.2.2.2.2.2.2.2.2.1 i = f6 i ∨ 0 ≤ s_15.2.2.2.2.2.2.2.2.2.2.1 i ∧ s_15.2.2.2.2.2.2.2.2.2.2.1 i < f11 (0 : Int32).toNatClampNeg)) (fun s_15 => 4 - s_15.2.1) (by (try dsimp only); (repeat' apply And.intro) <;> first | with_reducible assumption | ((try clear hback_13); first | grind [zu_at, zu_atL, zvn] | lia)) (by (try dsimp only); ((try clear hback_13); first | grind [zu_at, zu_atL, zvn] | lia)) (fun s_15 back_15 Hback_15 hback_15 => ?_)
  obtain ⟨s_15_0, s_15_1, s_15_2, s_15_3, s_15_4, s_15_5, s_15_6, s_15_7, s_15_8, s_15_9, s_15_10, s_15_11⟩ := s_15
  try dsimp only at Hback_15 hback_15
  obtain ⟨Hback_15_0, Hback_15_1, Hback_15_2, Hback_15_3, Hback_15_4, Hback_15_5, Hback_15_6, Hback_15_7, Hback_15_8, Hback_15_9, Hback_15_10, Hback_15_11, Hback_15_12, Hback_15_13, Hback_15_14, Hback_15_15⟩ := Hback_15
  refine zw_if (fun c2 => ?_) (fun c2 => ?_)
  · exact hback_13 _ (by (try dsimp only); (repeat' apply And.intro) <;> first | with_reducible assumption | ((try clear hback_13); (try clear hback_15); first | grind [zu_at, zu_atL, zvn] | lia)) (by (try dsimp only); ((try clear hback_13); (try clear hback_15); first | grind [zu_at, zu_atL, zvn] | lia)) (by (try dsimp only); ((try clear hback_13); (try clear hback_15); first | grind [zu_at, zu_atL, zvn] | lia))
  refine zw_zg32 14 (by decide) (by (try dsimp only); ((try clear hback_13); (try clear hback_15); first | grind [zu_at, zu_atL, zvn] | lia)) ?_
  refine zw_zg32 14 (by decide) (by (try dsimp only); ((try clear hback_13); (try clear hback_15); first | grind [zu_at, zu_atL, zvn] | lia)) ?_
  refine zw_if (fun c3 => ?_) (fun c3 => ?_)
  · exact hback_15 _ (by (try dsimp only); (repeat' apply And.intro) <;> first | with_reducible assumption | ((try clear hback_13); (try clear hback_15); first | grind [zu_at, zu_atL, zvn] | lia)) (by (try dsimp only); ((try clear hback_13); (try clear hback_15); first | grind [zu_at, zu_atL, zvn] | lia)) (by (try dsimp only); ((try clear hback_13); (try clear hback_15); first | grind [zu_at, zu_atL, zvn] | lia))
  refine zw_zb0 (sf_X12_triesHand f1 f5 s_15_10 (by first | with_reducible assumption | exact ⟨by with_reducible assumption, by with_reducible assumption⟩ | ((try clear hback_13); (try clear hback_15); first | grind [zu_at, zu_atL, zvn] | lia)) (by first | with_reducible assumption | exact ⟨by with_reducible assumption, by with_reducible assumption⟩ | ((try clear hback_13); (try clear hback_15); first | grind [zu_at, zu_atL, zvn] | lia)) (by first | with_reducible assumption | exact ⟨by with_reducible assumption, by with_reducible assumption⟩ | ((try clear hback_13); (try clear hback_15); first | grind [zu_at, zu_atL, zvn] | lia))) (fun o_20 ho_20 => ?_)
  obtain ⟨ho_20_0, ho_20_1⟩ := ho_20
  refine zw_zb0 (sf_X12_triesGroup (o_1_1 s_13_1.toNatClampNeg) s_15_1 f1 f2 o_20 (by first | with_reducible assumption | exact ⟨by with_reducible assumption, by with_reducible assumption⟩ | ((try clear hback_13); (try clear hback_15); first | grind [zu_at, zu_atL, zvn] | lia)) (by first | with_reducible assumption | exact ⟨by with_reducible assumption, by with_reducible assumption⟩ | ((try clear hback_13); (try clear hback_15); first | grind [zu_at, zu_atL, zvn] | lia)) (by first | with_reducible assumption | exact ⟨by with_reducible assumption, by with_reducible assumption⟩ | ((try clear hback_13); (try clear hback_15); first | grind [zu_at, zu_atL, zvn] | lia)) (by first | with_reducible assumption | exact ⟨by with_reducible assumption, by with_reducible assumption⟩ | ((try clear hback_13); (try clear hback_15); first | grind [zu_at, zu_atL, zvn] | lia))) (fun o_24 ho_24 => ?_)
  obtain ⟨ho_24_0, ho_24_1⟩ := ho_24
  refine zw_zb0 (sf_X12_passes (-1) w0_34 f1 f12 f8 f9 s_15_8 f14 f15 s_15_9 o_24 f17 s_15_11 f19 f20 (by first | with_reducible assumption | exact ⟨by with_reducible assumption, by with_reducible assumption⟩ | ((try clear hback_13); (try clear hback_15); first | grind [zu_at, zu_atL, zvn] | lia)) (by first | with_reducible assumption | exact ⟨by with_reducible assumption, by with_reducible assumption⟩ | ((try clear hback_13); (try clear hback_15); first | grind [zu_at, zu_atL, zvn] | lia)) (by first | with_reducible assumption | exact ⟨by with_reducible assumption, by with_reducible assumption⟩ | ((try clear hback_13); (try clear hback_15); first | grind [zu_at, zu_atL, zvn] | lia)) (by first | with_reducible assumption | exact ⟨by with_reducible assumption, by with_reducible assumption⟩ | ((try clear hback_13); (try clear hback_15); first | grind [zu_at, zu_atL, zvn] | lia)) (by first | with_reducible assumption | exact ⟨by with_reducible assumption, by with_reducible assumption⟩ | ((try clear hback_13); (try clear hback_15); first | grind [zu_at, zu_atL, zvn] | lia))) (fun o_28 ho_28 => ?_)
  obtain ⟨o_28_0, o_28_1, o_28_2, o_28_3, o_28_4, o_28_5⟩ := o_28
  try dsimp only at ho_28
  obtain ⟨ho_28_0, ho_28_1, ho_28_2, ho_28_3, ho_28_4, ho_28_5, ho_28_6, ho_28_7, ho_28_8, ho_28_9, ho_28_10, ho_28_11, ho_28_12⟩ := ho_28
  refine zw_if (fun c4 => ?_) (fun c4 => ?_)
  · exact hback_15 _ (by (try dsimp only); (repeat' apply And.intro) <;> first | with_reducible assumption | ((try clear hback_13); (try clear hback_15); first | grind [zu_at, zu_atL, zvn] | lia)) (by (try dsimp only); ((try clear hback_13); (try clear hback_15); first | grind [zu_at, zu_atL, zvn] | lia)) (by (try dsimp only); ((try clear hback_13); (try clear hback_15); first | grind [zu_at, zu_atL, zvn] | lia))
  refine zw_zb0 (sf_X12_costTried f7 f1 f8 o_24 f9 f10 (by first | with_reducible assumption | exact ⟨by with_reducible assumption, by with_reducible assumption⟩ | ((try clear hback_13); (try clear hback_15); first | grind [zu_at, zu_atL, zvn] | lia)) (by first | with_reducible assumption | exact ⟨by with_reducible assumption, by with_reducible assumption⟩ | ((try clear hback_13); (try clear hback_15); first | grind [zu_at, zu_atL, zvn] | lia)) (by first | with_reducible assumption | exact ⟨by with_reducible assumption, by with_reducible assumption⟩ | ((try clear hback_13); (try clear hback_15); first | grind [zu_at, zu_atL, zvn] | lia)) (by first | with_reducible assumption | exact ⟨by with_reducible assumption, by with_reducible assumption⟩ | ((try clear hback_13); (try clear hback_15); first | grind [zu_at, zu_atL, zvn] | lia))) (fun o_33 ho_33 => ?_)
  refine zw_zj (fun s_37 => 0 ≤ s_37 ∧ s_37 ≤ 1) (fun s_37 Hj_37 => ?_) (fun j_37 hj_37 => ?_)
  · obtain ⟨Hj_37_0, Hj_37_1⟩ := Hj_37
    refine zw_if (fun c5 => ?_) (fun c5 => ?_)
    · refine zw_zg32 14 (by decide) (by (try dsimp only); ((try clear hback_13); (try clear hback_15); (try clear hj_37); first | grind [zu_at, zu_atL, zvn] | lia)) ?_
      exact hback_15 _ (by (try dsimp only); (repeat' apply And.intro) <;> first | with_reducible assumption | ((try clear hback_13); (try clear hback_15); (try clear hj_37); first | grind [zu_at, zu_atL, zvn] | lia)) (by (try dsimp only); ((try clear hback_13); (try clear hback_15); (try clear hj_37); first | grind [zu_at, zu_atL, zvn] | lia)) (by (try dsimp only); ((try clear hback_13); (try clear hback_15); (try clear hj_37); first | grind [zu_at, zu_atL, zvn] | lia))
    exact hback_15 _ (by (try dsimp only); (repeat' apply And.intro) <;> first | with_reducible assumption | ((try clear hback_13); (try clear hback_15); (try clear hj_37); first | grind [zu_at, zu_atL, zvn] | lia)) (by (try dsimp only); ((try clear hback_13); (try clear hback_15); (try clear hj_37); first | grind [zu_at, zu_atL, zvn] | lia)) (by (try dsimp only); ((try clear hback_13); (try clear hback_15); (try clear hj_37); first | grind [zu_at, zu_atL, zvn] | lia))
  refine zw_if (fun c6 => ?_) (fun c6 => ?_)
  · exact hj_37 _ (by first | exact True.intro | ((try dsimp only); (repeat' apply And.intro) <;> first | with_reducible assumption | ((try clear hback_13); (try clear hback_15); (try clear hj_37); first | grind [zu_at, zu_atL, zvn] | lia)))
  exact hj_37 _ (by first | exact True.intro | ((try dsimp only); (repeat' apply And.intro) <;> first | with_reducible assumption | ((try clear hback_13); (try clear hback_15); (try clear hj_37); first | grind [zu_at, zu_atL, zvn] | lia)))
set_option maxHeartbeats 4000000 in
set_option maxRecDepth 100000 in
theorem sf_X12_single (p1 : Int32) (v0_30 : Int32) (v0_33 : Int32) (w0_34 : Int64) (v0_38 : Int32) (v0_41 : Int32) (v0_42 : Int32) (v0_50 : Int32) (v0_51 : Int32) (v0_52 : Int32) (v0_53 : Int32) (f1 : Nat → Int32) (f2 : Nat → Int32) (f3 : Nat → Int32) (f4 : Nat → Int32) (f5 : Nat → Int32) (f6 : Nat → Int32) (f7 : Nat → Int32) (f8 : Nat → Int32) (f9 : Nat → Int32) (f10 : Nat → Int32) (f11 : Nat → Int32) (f12 : Nat → Int32) (f13 : Nat → Int64) (f14 : Nat → Int64) (f15 : Nat → Int64) (f16 : Nat → Int64) (f17 : Nat → Int32) (f18 : Nat → Int64) (f19 : Nat → Int32) (f20 : Nat → Int32) (h_v0_30 : 0 ≤ v0_30 ∧ v0_30 ≤ 14) (h_v0_38 : 0 ≤ v0_38 ∧ v0_38 ≤ 1) (h_v0_52 : (-1) ≤ v0_52 ∧ v0_52 ≤ 13) (h_v0_53 : (-1) ≤ v0_53 ∧ v0_53 ≤ 3) (h_f1 : (∀ i : Nat, 0 ≤ f1 i ∧ f1 i ≤ 14)) (h_f2 : (∀ i : Nat, 0 ≤ f2 i ∧ f2 i ≤ 13)) (h_f3 : (∀ i : Nat, (-1) ≤ f3 i ∧ f3 i ≤ 3)) (h_f4 : (∀ i : Nat, 0 ≤ f4 i ∧ f4 i ≤ 13)) (h_f5 : (∀ i : Nat, 0 ≤ f5 i ∧ f5 i ≤ 3)) (h_f6 : (∀ i : Nat, 0 ≤ f6 i ∧ f6 i ≤ 3)) (h_f8 : (∀ i : Nat, (-1) ≤ f8 i ∧ f8 i ≤ 13)) (h_f9 : (∀ i : Nat, (-1) ≤ f9 i ∧ f9 i ≤ 13)) (h_f11 : (∀ i : Nat, 0 ≤ f11 i ∧ f11 i ≤ 4)) (hx_0 : f1 (0 : Int32).toNatClampNeg ≤ 0 ∨ 1 ≤ f11 (0 : Int32).toNatClampNeg ∧ (∀ x : Int32, 0 ≤ x → x < f11 (0 : Int32).toNatClampNeg → 1 ≤ f17 x.toNatClampNeg) ∧ (∀ i : Nat, 1 ≤ f17 (f5 i).toNatClampNeg) ∧ (∀ i : Nat, 1 ≤ f17 (f6 i).toNatClampNeg)) : zw (fn_X12_single p1 v0_30 v0_33 w0_34 v0_38 v0_41 v0_42 v0_50 v0_51 v0_52 v0_53 f1 f2 f3 f4 f5 f6 f7 f8 f9 f10 f11 f12 f13 f14 f15 f16 f17 f18 f19 f20) (fun r => 0 ≤ r.2.1 ∧ r.2.1 ≤ 14 ∧ (-1) ≤ r.2.2.2.2.2.2.2.1 ∧ r.2.2.2.2.2.2.2.1 ≤ 13 ∧ (-1) ≤ r.2.2.2.2.2.2.2.2.1 ∧ r.2.2.2.2.2.2.2.2.1 ≤ 3 ∧ (∀ i : Nat, 0 ≤ r.2.2.2.2.2.2.2.2.2.1 i ∧ r.2.2.2.2.2.2.2.2.2.1 i ≤ 13) ∧ (∀ i : Nat, 0 ≤ r.2.2.2.2.2.2.2.2.2.2.1 i ∧ r.2.2.2.2.2.2.2.2.2.2.1 i ≤ 3) ∧ (∀ i : Nat, r.2.2.2.2.2.2.2.2.2.2.1 i = f5 i ∨ r.2.2.2.2.2.2.2.2.2.2.1 i = f6 i ∨ 0 ≤ r.2.2.2.2.2.2.2.2.2.2.1 i ∧ r.2.2.2.2.2.2.2.2.2.2.1 i < f11 (0 : Int32).toNatClampNeg)) := by
  unfold fn_X12_single
  refine zw_zb0 (sf_X12_isThere v0_38 f1 (by first | with_reducible assumption | exact ⟨by with_reducible assumption, by with_reducible assumption⟩ | first | lia | grind [zu_at, zu_atL, zvn]) (by first | with_reducible assumption | exact ⟨by with_reducible assumption, by with_reducible assumption⟩ | first | lia | grind [zu_at, zu_atL, zvn])) (fun o_1 ho_1 => ?_)
  obtain ⟨ho_1_0, ho_1_1, ho_1_2, ho_1_3, ho_1_4, ho_1_5⟩ := ho_1
  refine zw_if (fun c1 => ?_) (fun c1 => ?_)
  · refine zw_some ?_
    first | exact True.intro | ((try dsimp only); (repeat' apply And.intro) <;> first | with_reducible assumption | first | lia | grind [zu_at, zu_atL, zvn])
  refine zw_zb0 (sf_X12_isIn p1.toInt64 (0 : Int64) (3 : Int64)) (fun o_6 ho_6 => ?_)
  obtain ⟨ho_6_0, ho_6_1, ho_6_2, ho_6_3, ho_6_4⟩ := ho_6
  refine zw_if (fun c2 => ?_) (fun c2 => ?_)
  · refine zw_some ?_
    first | exact True.intro | ((try dsimp only); (repeat' apply And.intro) <;> first | with_reducible assumption | first | lia | grind [zu_at, zu_atL, zvn])
  refine zw_zb0 (sf_X12_laysSingle w0_34 v0_41 v0_42 f1 f2 f3 f4 f5 f6 f7 f8 f9 f10 f11 f12 f13 f14 f15 f16 f17 f18 f19 f20 (by first | with_reducible assumption | exact ⟨by with_reducible assumption, by with_reducible assumption⟩ | first | lia | grind [zu_at, zu_atL, zvn]) (by first | with_reducible assumption | exact ⟨by with_reducible assumption, by with_reducible assumption⟩ | first | lia | grind [zu_at, zu_atL, zvn]) (by first | with_reducible assumption | exact ⟨by with_reducible assumption, by with_reducible assumption⟩ | first | lia | grind [zu_at, zu_atL, zvn]) (by first | with_reducible assumption | exact ⟨by with_reducible assumption, by with_reducible assumption⟩ | first | lia | grind [zu_at, zu_atL, zvn]) (by first | with_reducible assumption | exact ⟨by with_reducible assumption, by with_reducible assumption⟩ | first | lia | grind [zu_at, zu_atL, zvn]) (by first | with_reducible assumption | exact ⟨by with_reducible assumption, by with_reducible assumption⟩ | first | lia | grind [zu_at, zu_atL, zvn]) (by first | with_reducible assumption | exact ⟨by with_reducible assumption, by with_reducible assumption⟩ | first | lia | grind [zu_at, zu_atL, zvn]) (by first | with_reducible assumption | exact ⟨by with_reducible assumption, by with_reducible assumption⟩ | first | lia | grind [zu_at, zu_atL, zvn]) (by first | with_reducible assumption | exact ⟨by with_reducible assumption, by with_reducible assumption⟩ | first | lia | grind [zu_at, zu_atL, zvn]) (by first | with_reducible assumption | exact ⟨by with_reducible assumption, by with_reducible assumption⟩ | first | lia | grind [zu_at, zu_atL, zvn]) (by first | with_reducible assumption | exact ⟨by with_reducible assumption, by with_reducible assumption⟩ | first | lia | grind [zu_at, zu_atL, zvn]) (by first | with_reducible assumption | exact ⟨by with_reducible assumption, by with_reducible assumption⟩ | first | lia | grind [zu_at, zu_atL, zvn]) (by first | with_reducible assumption | exact ⟨by with_reducible assumption, by with_reducible assumption⟩ | first | lia | grind [zu_at, zu_atL, zvn])) (fun o_11 ho_11 => ?_)
  obtain ⟨o_11_0, o_11_1, o_11_2, o_11_3, o_11_4, o_11_5, o_11_6, o_11_7, o_11_8, o_11_9, o_11_10, o_11_11, o_11_12⟩ := o_11
  try dsimp only at ho_11
  obtain ⟨ho_11_0, ho_11_1, ho_11_2, ho_11_3, ho_11_4, ho_11_5, ho_11_6, ho_11_7, ho_11_8, ho_11_9, ho_11_10, ho_11_11, ho_11_12, ho_11_13, ho_11_14, ho_11_15⟩ := ho_11
  refine zw_if (fun c3 => ?_) (fun c3 => ?_)
  · refine zw_some ?_
    first | exact True.intro | ((try dsimp only); (repeat' apply And.intro) <;> first | with_reducible assumption | first | lia | grind [zu_at, zu_atL, zvn])
  refine zw_if (fun c4 => ?_) (fun c4 => ?_)
  · refine zw_some ?_
    first | exact True.intro | ((try dsimp only); (repeat' apply And.intro) <;> first | with_reducible assumption | first | lia | grind [zu_at, zu_atL, zvn])
  refine zw_if (fun c5 => ?_) (fun c5 => ?_)
  · refine zw_some ?_
    first | exact True.intro | ((try dsimp only); (repeat' apply And.intro) <;> first | with_reducible assumption | first | lia | grind [zu_at, zu_atL, zvn])
  refine zw_some ?_
  first | exact True.intro | ((try dsimp only); (repeat' apply And.intro) <;> first | with_reducible assumption | first | lia | grind [zu_at, zu_atL, zvn])
set_option maxHeartbeats 4000000 in
set_option maxRecDepth 100000 in
theorem sf_X12_takesTried (f1 : Nat → Int32) (f2 : Nat → Int32) (f3 : Nat → Int32) (h_f1 : (∀ i : Nat, 0 ≤ f1 i ∧ f1 i ≤ 14)) (h_f2 : (∀ i : Nat, 0 ≤ f2 i ∧ f2 i ≤ 3)) (h_f3 : (∀ i : Nat, 0 ≤ f3 i ∧ f3 i ≤ 3)) : zw (fn_X12_takesTried f1 f2 f3) (fun r => (∀ i : Nat, 0 ≤ r i ∧ r i ≤ 3) ∧ (∀ i : Nat, r i = f3 i ∨ r i = f2 i)) := by
  unfold fn_X12_takesTried
  refine zw_zl32 (fun s_1 => (∀ i : Nat, 0 ≤ s_1.2 i ∧ s_1.2 i ≤ 3) ∧ 0 ≤ s_1.1 ∧ s_1.1 ≤ 14 ∧ (∀ i : Nat, s_1.2 i = f3 i ∨ s_1.2 i = f2 i)) (fun s_1 => 14 - s_1.1) (by (try dsimp only); (repeat' apply And.intro) <;> first | with_reducible assumption | first | lia | grind [zu_at, zu_atL, zvn]) (by (try dsimp only); first | lia | grind [zu_at, zu_atL, zvn]) (fun s_1 back_1 Hback_1 hback_1 => ?_)
  obtain ⟨s_1_0, s_1_1⟩ := s_1
  try dsimp only at Hback_1 hback_1
  obtain ⟨Hback_1_0, Hback_1_1, Hback_1_2, Hback_1_3⟩ := Hback_1
  refine zw_if (fun c1 => ?_) (fun c1 => ?_)
  · refine zw_some ?_
    first | exact True.intro | ((try dsimp only); (repeat' apply And.intro) <;> first | with_reducible assumption | ((try clear hback_1); first | lia | grind [zu_at, zu_atL, zvn]))
  refine zw_zg32 14 (by decide) (by (try dsimp only); ((try clear hback_1); first | lia | grind [zu_at, zu_atL, zvn])) ?_
  exact hback_1 _ (by (try dsimp only); (repeat' apply And.intro) <;> first | with_reducible assumption | ((try clear hback_1); first | lia | grind [zu_at, zu_atL, zvn])) (by (try dsimp only); ((try clear hback_1); first | lia | grind [zu_at, zu_atL, zvn])) (by (try dsimp only); ((try clear hback_1); first | lia | grind [zu_at, zu_atL, zvn]))
set_option maxHeartbeats 4000000 in
set_option maxRecDepth 100000 in
theorem sf_X12_canTake (p1 : Int32) (v0_30 : Int32) (v0_33 : Int32) (w0_34 : Int64) (v0_38 : Int32) (v0_41 : Int32) (v0_42 : Int32) (v0_44 : Int32) (v0_45 : Int32) (v0_50 : Int32) (v0_51 : Int32) (v0_52 : Int32) (v0_53 : Int32) (f1 : Nat → Int32) (f2 : Nat → Int32) (f3 : Nat → Int32) (f4 : Nat → Int32) (f5 : Nat → Int32) (f6 : Nat → Int32) (f7 : Nat → Int32) (f8 : Nat → Int32) (f9 : Nat → Int32) (f10 : Nat → Int32) (f11 : Nat → Int32) (f12 : Nat → Int32) (f13 : Nat → Int64) (f14 : Nat → Int64) (f15 : Nat → Int64) (f16 : Nat → Int64) (f17 : Nat → Int32) (f18 : Nat → Int64) (f19 : Nat → Int32) (f20 : Nat → Int32) (f21 : Nat → Int32) (f22 : Nat → Int32) (f23 : Nat → Int32) (f24 : Nat → Int32) (f25 : Nat → Int32) (h_v0_30 : 0 ≤ v0_30 ∧ v0_30 ≤ 14) (h_v0_38 : 0 ≤ v0_38 ∧ v0_38 ≤ 1) (h_v0_52 : (-1) ≤ v0_52 ∧ v0_52 ≤ 13) (h_v0_53 : (-1) ≤ v0_53 ∧ v0_53 ≤ 3) (h_f1 : (∀ i : Nat, 0 ≤ f1 i ∧ f1 i ≤ 14)) (h_f2 : (∀ i : Nat, 0 ≤ f2 i ∧ f2 i ≤ 13)) (h_f3 : (∀ i : Nat, (-1) ≤ f3 i ∧ f3 i ≤ 3)) (h_f4 : (∀ i : Nat, 0 ≤ f4 i ∧ f4 i ≤ 13)) (h_f5 : (∀ i : Nat, 0 ≤ f5 i ∧ f5 i ≤ 3)) (h_f6 : (∀ i : Nat, 0 ≤ f6 i ∧ f6 i ≤ 3)) (h_f8 : (∀ i : Nat, (-1) ≤ f8 i ∧ f8 i ≤ 13)) (h_f9 : (∀ i : Nat, (-1) ≤ f9 i ∧ f9 i ≤ 13)) (h_f11 : (∀ i : Nat, 0 ≤ f11 i ∧ f11 i ≤ 4)) (h_f21 : (∀ i : Nat, 0 ≤ f21 i ∧ f21 i ≤ 1)) (h_f22 : (∀ i : Nat, 0 ≤ f22 i ∧ f22 i ≤ 3)) (h_f23 : (∀ i : Nat, 0 ≤ f23 i ∧ f23 i ≤ 13)) (hx_0 : f1 (0 : Int32).toNatClampNeg ≤ 0 ∨ 1 ≤ f11 (0 : Int32).toNatClampNeg ∧ (∀ x : Int32, 0 ≤ x → x < f11 (0 : Int32).toNatClampNeg → 1 ≤ f17 x.toNatClampNeg) ∧ (∀ i : Nat, 1 ≤ f17 (f5 i).toNatClampNeg) ∧ (∀ i : Nat, 1 ≤ f17 (f6 i).toNatClampNeg) ∧ (∀ i : Nat, 1 ≤ f17 (f22 i).toNatClampNeg)) : zw (fn_X12_canTake p1 v0_30 v0_33 w0_34 v0_38 v0_41 v0_42 v0_44 v0_45 v0_50 v0_51 v0_52 v0_53 f1 f2 f3 f4 f5 f6 f7 f8 f9 f10 f11 f12 f13 f14 f15 f16 f17 f18 f19 f20 f21 f22 f23 f24 f25) (fun r => 0 ≤ r.1 ∧ r.1 ≤ 1 ∧ 0 ≤ r.2.1 ∧ r.2.1 ≤ 14 ∧ (-1) ≤ r.2.2.2.2.2.2.2.2.2.1 ∧ r.2.2.2.2.2.2.2.2.2.1 ≤ 13 ∧ (-1) ≤ r.2.2.2.2.2.2.2.2.2.2.1 ∧ r.2.2.2.2.2.2.2.2.2.2.1 ≤ 3 ∧ (∀ i : Nat, 0 ≤ r.2.2.2.2.2.2.2.2.2.2.2.1 i ∧ r.2.2.2.2.2.2.2.2.2.2.2.1 i ≤ 13) ∧ (∀ i : Nat, 0 ≤ r.2.2.2.2.2.2.2.2.2.2.2.2.1 i ∧ r.2.2.2.2.2.2.2.2.2.2.2.2.1 i ≤ 3) ∧ (∀ i : Nat, 0 ≤ r.2.2.2.2.2.2.2.2.2.2.2.2.2.2.2.2.1 i ∧ r.2.2.2.2.2.2.2.2.2.2.2.2.2.2.2.2.1 i ≤ 1) ∧ (∀ i : Nat, 0 ≤ r.2.2.2.2.2.2.2.2.2.2.2.2.2.2.2.2.2.1 i ∧ r.2.2.2.2.2.2.2.2.2.2.2.2.2.2.2.2.2.1 i ≤ 3) ∧ (∀ i : Nat, 0 ≤ r.2.2.2.2.2.2.2.2.2.2.2.2.2.2.2.2.2.2.1 i ∧ r.2.2.2.2.2.2.2.2.2.2.2.2.2.2.2.2.2.2.1 i ≤ 13) ∧ (∀ i : Nat, r.2.2.2.2.2.2.2.2.2.2.2.2.1 i = f5 i ∨ r.2.2.2.2.2.2.2.2.2.2.2.2.1 i = f6 i ∨ r.2.2.2.2.2.2.2.2.2.2.2.2.1 i = f22 i ∨ 0 ≤ r.2.2.2.2.2.2.2.2.2.2.2.2.1 i ∧ r.2.2.2.2.2.2.2.2.2.2.2.2.1 i < f11 (0 : Int32).toNatClampNeg) ∧ (∀ i : Nat, r.2.2.2.2.2.2.2.2.2.2.2.2.2.2.2.2.2.1 i = f5 i ∨ r.2.2.2.2.2.2.2.2.2.2.2.2.2.2.2.2.2.1 i = f6 i ∨ r.2.2.2.2.2.2.2.2.2.2.2.2.2.2.2.2.2.1 i = f22 i ∨ 0 ≤ r.2.2.2.2.2.2.2.2.2.2.2.2.2.2.2.2.2.1 i ∧ r.2.2.2.2.2.2.2.2.2.2.2.2.2.2.2.2.2.1 i < f11 (0 : Int32).toNatClampNeg)) := by
  unfold fn_X12_canTake
  refine zw_if (fun c1 => ?_) (fun c1 => ?_)
  · refine zw_zb0 (sf_X12_canSearch v0_38 f1 f2 f3 f4 (by first | with_reducible assumption | exact ⟨by with_reducible assumption, by with_reducible assumption⟩ | first | lia | grind [zu_at, zu_atL, zvn]) (by first | with_reducible assumption | exact ⟨by with_reducible assumption, by with_reducible assumption⟩ | first | lia | grind [zu_at, zu_atL, zvn]) (by first | with_reducible assumption | exact ⟨by with_reducible assumption, by with_reducible assumption⟩ | first | lia | grind [zu_at, zu_atL, zvn]) (by first | with_reducible assumption | exact ⟨by with_reducible assumption, by with_reducible assumption⟩ | first | lia | grind [zu_at, zu_atL, zvn]) (by first | with_reducible assumption | exact ⟨by with_reducible assumption, by with_reducible assumption⟩ | first | lia | grind [zu_at, zu_atL, zvn])) (fun o_35 ho_35 => ?_)
    obtain ⟨o_35_0, o_35_1, o_35_2, o_35_3⟩ := o_35
    try dsimp only at ho_35
    obtain ⟨ho_35_0, ho_35_1, ho_35_2, ho_35_3, ho_35_4, ho_35_5, ho_35_6, ho_35_7, ho_35_8, ho_35_9, ho_35_10, ho_35_11, ho_35_12⟩ := ho_35
    refine zw_zj (fun s_39 => (s_39.1 = (-1) ∨ 1 ≤ f11 (0 : Int32).toNatClampNeg) ∧ (∀ i : Nat, 0 ≤ s_39.2.2.2.2.2.1 i ∧ s_39.2.2.2.2.2.1 i ≤ 3) ∧ (-1) ≤ s_39.1 ∧ s_39.1 ≤ 1023 ∧ (∀ i : Nat, s_39.2.2.2.2.2.1 i = f5 i ∨ s_39.2.2.2.2.2.1 i = f6 i ∨ s_39.2.2.2.2.2.1 i = f22 i ∨ 0 ≤ s_39.2.2.2.2.2.1 i ∧ s_39.2.2.2.2.2.1 i < f11 (0 : Int32).toNatClampNeg)) (fun s_39 Hj_39 => ?_) (fun j_39 hj_39 => ?_)
    · obtain ⟨s_39_0, s_39_1, s_39_2, s_39_3, s_39_4, s_39_5, s_39_6⟩ := s_39
      try dsimp only at Hj_39
      obtain ⟨Hj_39_0, Hj_39_1, Hj_39_2, Hj_39_3, Hj_39_4⟩ := Hj_39
      refine zw_if (fun c2 => ?_) (fun c2 => ?_)
      · refine zw_if (fun c3 => ?_) (fun c3 => ?_)
        · refine zw_some ?_
          first | exact True.intro | ((try dsimp only); (repeat' apply And.intro) <;> first | with_reducible assumption | ((try clear hj_39); first | lia | grind [zu_at, zu_atL, zvn]))
        refine zw_some ?_
        first | exact True.intro | ((try dsimp only); (repeat' apply And.intro) <;> first | with_reducible assumption | ((try clear hj_39); first | lia | grind [zu_at, zu_atL, zvn]))
      refine zw_zb0 (sf_X12_triesChoice s_39_0 o_35_1 f1 f5 s_39_5 o_35_3 f11 f2 (by first | with_reducible assumption | exact ⟨by with_reducible assumption, by with_reducible assumption⟩ | ((try clear hj_39); first | lia | grind [zu_at, zu_atL, zvn])) (by first | with_reducible assumption | exact ⟨by with_reducible assumption, by with_reducible assumption⟩ | ((try clear hj_39); first | lia | grind [zu_at, zu_atL, zvn])) (by first | with_reducible assumption | exact ⟨by with_reducible assumption, by with_reducible assumption⟩ | ((try clear hj_39); first | lia | grind [zu_at, zu_atL, zvn])) (by first | with_reducible assumption | exact ⟨by with_reducible assumption, by with_reducible assumption⟩ | ((try clear hj_39); first | lia | grind [zu_at, zu_atL, zvn])) (by first | with_reducible assumption | exact ⟨by with_reducible assumption, by with_reducible assumption⟩ | ((try clear hj_39); first | lia | grind [zu_at, zu_atL, zvn])) (by first | with_reducible assumption | exact ⟨by with_reducible assumption, by with_reducible assumption⟩ | ((try clear hj_39); first | lia | grind [zu_at, zu_atL, zvn])) (by first | with_reducible assumption | exact ⟨by with_reducible assumption, by with_reducible assumption⟩ | ((try clear hj_39); first | lia | grind [zu_at, zu_atL, zvn])) (by first | with_reducible assumption | exact ⟨by with_reducible assumption, by with_reducible assumption⟩ | ((try clear hj_39); first | lia | grind [zu_at, zu_atL, zvn])) (by first | with_reducible assumption | exact ⟨by with_reducible assumption, by with_reducible assumption⟩ | ((try clear hj_39); first | lia | grind [zu_at, zu_atL, zvn]))) (fun o_42 ho_42 => ?_)
      obtain ⟨ho_42_0, ho_42_1⟩ := ho_42
      refine zw_if (fun c4 => ?_) (fun c4 => ?_)
      · refine zw_some ?_
        first | exact True.intro | ((try dsimp only); (repeat' apply And.intro) <;> first | with_reducible assumption | ((try clear hj_39); first | lia | grind [zu_at, zu_atL, zvn]))
      refine zw_some ?_
      first | exact True.intro | ((try dsimp only); (repeat' apply And.intro) <;> first | with_reducible assumption | ((try clear hj_39); first | lia | grind [zu_at, zu_atL, zvn]))
    refine zw_if (fun c5 => ?_) (fun c5 => ?_)
    · exact hj_39 _ (by first | exact True.intro | ((try dsimp only); (repeat' apply And.intro) <;> first | with_reducible assumption | ((try clear hj_39); first | lia | grind [zu_at, zu_atL, zvn])))
    refine zw_zb0 (sf_X12_cheapestChoice o_35_1 o_35_2 w0_34 v0_41 v0_42 f11 f1 f5 f6 o_35_3 f2 f7 f8 f9 f10 f12 f13 f14 f15 f16 f17 f18 f19 f20 (by first | with_reducible assumption | exact ⟨by with_reducible assumption, by with_reducible assumption⟩ | ((try clear hj_39); first | lia | grind [zu_at, zu_atL, zvn])) (by first | with_reducible assumption | exact ⟨by with_reducible assumption, by with_reducible assumption⟩ | ((try clear hj_39); first | lia | grind [zu_at, zu_atL, zvn])) (by first | with_reducible assumption | exact ⟨by with_reducible assumption, by with_reducible assumption⟩ | ((try clear hj_39); first | lia | grind [zu_at, zu_atL, zvn])) (by first | with_reducible assumption | exact ⟨by with_reducible assumption, by with_reducible assumption⟩ | ((try clear hj_39); first | lia | grind [zu_at, zu_atL, zvn])) (by first | with_reducible assumption | exact ⟨by with_reducible assumption, by with_reducible assumption⟩ | ((try clear hj_39); first | lia | grind [zu_at, zu_atL, zvn])) (by first | with_reducible assumption | exact ⟨by with_reducible assumption, by with_reducible assumption⟩ | ((try clear hj_39); first | lia | grind [zu_at, zu_atL, zvn])) (by first | with_reducible assumption | exact ⟨by with_reducible assumption, by with_reducible assumption⟩ | ((try clear hj_39); first | lia | grind [zu_at, zu_atL, zvn])) (by first | with_reducible assumption | exact ⟨by with_reducible assumption, by with_reducible assumption⟩ | ((try clear hj_39); first | lia | grind [zu_at, zu_atL, zvn])) (by first | with_reducible assumption | exact ⟨by with_reducible assumption, by with_reducible assumption⟩ | ((try clear hj_39); first | lia | grind [zu_at, zu_atL, zvn])) (by first | with_reducible assumption | exact ⟨by with_reducible assumption, by with_reducible assumption⟩ | ((try clear hj_39); first | lia | grind [zu_at, zu_atL, zvn])) (by first | with_reducible assumption | exact ⟨by with_reducible assumption, by with_reducible assumption⟩ | ((try clear hj_39); first | lia | grind [zu_at, zu_atL, zvn])) (by first | with_reducible assumption | exact ⟨by with_reducible assumption, by with_reducible assumption⟩ | ((try clear hj_39); first | lia | grind [zu_at, zu_atL, zvn])) (by first | with_reducible assumption | exact ⟨by with_reducible assumption, by with_reducible assumption⟩ | ((try clear hj_39); first | lia | grind [zu_at, zu_atL, zvn]))) (fun o_48 ho_48 => ?_)
    obtain ⟨o_48_0, o_48_1, o_48_2, o_48_3, o_48_4, o_48_5, o_48_6⟩ := o_48
    try dsimp only at ho_48
    obtain ⟨ho_48_0, ho_48_1, ho_48_2, ho_48_3⟩ := ho_48
    exact hj_39 _ (by first | exact True.intro | ((try dsimp only); (repeat' apply And.intro) <;> first | with_reducible assumption | ((try clear hj_39); first | lia | grind [zu_at, zu_atL, zvn])))
  refine zw_if (fun c6 => ?_) (fun c6 => ?_)
  · refine zw_zb0 (sf_X12_halve w0_34 v0_38 v0_41 v0_42 v0_44 v0_45 f1 f2 f3 f4 f11 f17 f5 f6 f21 f12 f8 f9 f13 f14 f15 f16 f18 f19 f20 f22 f7 f10 f23 f24 f25 (by first | with_reducible assumption | exact ⟨by with_reducible assumption, by with_reducible assumption⟩ | ((try clear hj_39); first | lia | grind [zu_at, zu_atL, zvn])) (by first | with_reducible assumption | exact ⟨by with_reducible assumption, by with_reducible assumption⟩ | ((try clear hj_39); first | lia | grind [zu_at, zu_atL, zvn])) (by first | with_reducible assumption | exact ⟨by with_reducible assumption, by with_reducible assumption⟩ | ((try clear hj_39); first | lia | grind [zu_at, zu_atL, zvn])) (by first | with_reducible assumption | exact ⟨by with_reducible assumption, by with_reducible assumption⟩ | ((try clear hj_39); first | lia | grind [zu_at, zu_atL, zvn])) (by first | with_reducible assumption | exact ⟨by with_reducible assumption, by with_reducible assumption⟩ | ((try clear hj_39); first | lia | grind [zu_at, zu_atL, zvn])) (by first | with_reducible assumption | exact ⟨by with_reducible assumption, by with_reducible assumption⟩ | ((try clear hj_39); first | lia | grind [zu_at, zu_atL, zvn])) (by first | with_reducible assumption | exact ⟨by with_reducible assumption, by with_reducible assumption⟩ | ((try clear hj_39); first | lia | grind [zu_at, zu_atL, zvn])) (by first | with_reducible assumption | exact ⟨by with_reducible assumption, by with_reducible assumption⟩ | ((try clear hj_39); first | lia | grind [zu_at, zu_atL, zvn])) (by first | with_reducible assumption | exact ⟨by with_reducible assumption, by with_reducible assumption⟩ | ((try clear hj_39); first | lia | grind [zu_at, zu_atL, zvn])) (by first | with_reducible assumption | exact ⟨by with_reducible assumption, by with_reducible assumption⟩ | ((try clear hj_39); first | lia | grind [zu_at, zu_atL, zvn])) (by first | with_reducible assumption | exact ⟨by with_reducible assumption, by with_reducible assumption⟩ | ((try clear hj_39); first | lia | grind [zu_at, zu_atL, zvn])) (by first | with_reducible assumption | exact ⟨by with_reducible assumption, by with_reducible assumption⟩ | ((try clear hj_39); first | lia | grind [zu_at, zu_atL, zvn])) (by first | with_reducible assumption | exact ⟨by with_reducible assumption, by with_reducible assumption⟩ | ((try clear hj_39); first | lia | grind [zu_at, zu_atL, zvn])) (by first | with_reducible assumption | exact ⟨by with_reducible assumption, by with_reducible assumption⟩ | ((try clear hj_39); first | lia | grind [zu_at, zu_atL, zvn]))) (fun o_24 ho_24 => ?_)
    obtain ⟨o_24_0, o_24_1, o_24_2, o_24_3, o_24_4, o_24_5, o_24_6, o_24_7, o_24_8, o_24_9, o_24_10, o_24_11, o_24_12, o_24_13, o_24_14, o_24_15, o_24_16⟩ := o_24
    try dsimp only at ho_24
    obtain ⟨ho_24_0, ho_24_1, ho_24_2, ho_24_3, ho_24_4, ho_24_5, ho_24_6, ho_24_7, ho_24_8, ho_24_9, ho_24_10, ho_24_11, ho_24_12, ho_24_13, ho_24_14, ho_24_15, ho_24_16, ho_24_17, ho_24_18⟩ := ho_24
    refine zw_zl32 (fun s_28 => (∀ i : Nat, 0 ≤ s_28.2 i ∧ s_28.2 i ≤ 3) ∧ 0 ≤ s_28.1 ∧ s_28.1 ≤ 14 ∧ s_28.1 ≤ (f1 (0 : Int32).toNatClampNeg) ∧ (∀ i : Nat, s_28.2 i = f5 i ∨ s_28.2 i = f6 i ∨ s_28.2 i = f22 i ∨ 0 ≤ s_28.2 i ∧ s_28.2 i < f11 (0 : Int32).toNatClampNeg)) (fun s_28 => 14 - s_28.1) (by (try dsimp only); (repeat' apply And.intro) <;> first | with_reducible assumption | ((try clear hj_39); first | lia | grind [zu_at, zu_atL, zvn])) (by (try dsimp only); ((try clear hj_39); first | lia | grind [zu_at, zu_atL, zvn])) (fun s_28 back_28 Hback_28 hback_28 => ?_)
    obtain ⟨s_28_0, s_28_1⟩ := s_28
    try dsimp only at Hback_28 hback_28
    obtain ⟨Hback_28_0, Hback_28_1, Hback_28_2, Hback_28_3, Hback_28_4⟩ := Hback_28
    refine zw_if (fun c7 => ?_) (fun c7 => ?_)
    · refine zw_zt (by (try dsimp only); ((try clear hj_39); (try clear hback_28); first | lia | grind [zu_at, zu_atL, zvn])) ?_
      refine zw_some ?_
      first | exact True.intro | ((try dsimp only); (repeat' apply And.intro) <;> first | with_reducible assumption | ((try clear hj_39); (try clear hback_28); first | lia | grind [zu_at, zu_atL, zvn]))
    refine zw_if (fun c8 => ?_) (fun c8 => ?_)
    · refine zw_zt (by (try dsimp only); ((try clear hj_39); (try clear hback_28); first | lia | grind [zu_at, zu_atL, zvn])) ?_
      refine zw_some ?_
      first | exact True.intro | ((try dsimp only); (repeat' apply And.intro) <;> first | with_reducible assumption | ((try clear hj_39); (try clear hback_28); first | lia | grind [zu_at, zu_atL, zvn]))
    refine zw_zg32 14 (by decide) (by (try dsimp only); ((try clear hj_39); (try clear hback_28); first | lia | grind [zu_at, zu_atL, zvn])) ?_
    refine zw_zn1 ?_
    exact hback_28 _ (by (try dsimp only); (repeat' apply And.intro) <;> first | with_reducible assumption | ((try clear hj_39); (try clear hback_28); first | lia | grind [zu_at, zu_atL, zvn])) (by (try dsimp only); ((try clear hj_39); (try clear hback_28); first | lia | grind [zu_at, zu_atL, zvn])) (by (try dsimp only); ((try clear hj_39); (try clear hback_28); first | lia | grind [zu_at, zu_atL, zvn]))
  refine zw_if (fun c9 => ?_) (fun c9 => ?_)
  · refine zw_zb0 (sf_X12_isThere v0_38 f1 (by first | with_reducible assumption | exact ⟨by with_reducible assumption, by with_reducible assumption⟩ | ((try clear hj_39); (try clear hback_28); first | lia | grind [zu_at, zu_atL, zvn])) (by first | with_reducible assumption | exact ⟨by with_reducible assumption, by with_reducible assumption⟩ | ((try clear hj_39); (try clear hback_28); first | lia | grind [zu_at, zu_atL, zvn]))) (fun o_4 ho_4 => ?_)
    obtain ⟨ho_4_0, ho_4_1, ho_4_2, ho_4_3, ho_4_4, ho_4_5⟩ := ho_4
    refine zw_if (fun c10 => ?_) (fun c10 => ?_)
    · refine zw_some ?_
      first | exact True.intro | ((try dsimp only); (repeat' apply And.intro) <;> first | with_reducible assumption | ((try clear hj_39); (try clear hback_28); first | lia | grind [zu_at, zu_atL, zvn]))
    refine zw_zb0 (sf_X12_laysSingle w0_34 v0_41 v0_42 f1 f2 f3 f4 f5 f6 f7 f8 f9 f10 f11 f12 f13 f14 f15 f16 f17 f18 f19 f20 (by first | with_reducible assumption | exact ⟨by with_reducible assumption, by with_reducible assumption⟩ | ((try clear hj_39); (try clear hback_28); first | lia | grind [zu_at, zu_atL, zvn])) (by first | with_reducible assumption | exact ⟨by with_reducible assumption, by with_reducible assumption⟩ | ((try clear hj_39); (try clear hback_28); first | lia | grind [zu_at, zu_atL, zvn])) (by first | with_reducible assumption | exact ⟨by with_reducible assumption, by with_reducible assumption⟩ | ((try clear hj_39); (try clear hback_28); first | lia | grind [zu_at, zu_atL, zvn])) (by first | with_reducible assumption | exact ⟨by with_reducible assumption, by with_reducible assumption⟩ | ((try clear hj_39); (try clear hback_28); first | lia | grind [zu_at, zu_atL, zvn])) (by first | with_reducible assumption | exact ⟨by with_reducible assumption, by with_reducible assumption⟩ | ((try clear hj_39); (try clear hback_28); first | lia | grind [zu_at, zu_atL, zvn])) (by first | with_reducible assumption | exact ⟨by with_reducible assumption, by with_reducible assumption⟩ | ((try clear hj_39); (try clear hback_28); first | lia | grind [zu_at, zu_atL, zvn])) (by first | with_reducible assumption | exact ⟨by with_reducible assumption, by with_reducible assumption⟩ | ((try clear hj_39); (try clear hback_28); first | lia | grind [zu_at, zu_atL, zvn])) (by first | with_reducible assumption | exact ⟨by with_reducible assumption, by with_reducible assumption⟩ | ((try clear hj_39); (try clear hback_28); first | lia | grind [zu_at, zu_atL, zvn])) (by first | with_reducible assumption | exact ⟨by with_reducible assumption, by with_reducible assumption⟩ | ((try clear hj_39); (try clear hback_28); first | lia | grind [zu_at, zu_atL, zvn])) (by first | with_reducible assumption | exact ⟨by with_reducible assumption, by with_reducible assumption⟩ | ((try clear hj_39); (try clear hback_28); first | lia | grind [zu_at, zu_atL, zvn])) (by first | with_reducible assumption | exact ⟨by with_reducible assumption, by with_reducible assumption⟩ | ((try clear hj_39); (try clear hback_28); first | lia | grind [zu_at, zu_atL, zvn])) (by first | with_reducible assumption | exact ⟨by with_reducible assumption, by with_reducible assumption⟩ | ((try clear hj_39); (try clear hback_28); first | lia | grind [zu_at, zu_atL, zvn])) (by first | with_reducible assumption | exact ⟨by with_reducible assumption, by with_reducible assumption⟩ | ((try clear hj_39); (try clear hback_28); first | lia | grind [zu_at, zu_atL, zvn]))) (fun o_9 ho_9 => ?_)
    obtain ⟨o_9_0, o_9_1, o_9_2, o_9_3, o_9_4, o_9_5, o_9_6, o_9_7, o_9_8, o_9_9, o_9_10, o_9_11, o_9_12⟩ := o_9
    try dsimp only at ho_9
    obtain ⟨ho_9_0, ho_9_1, ho_9_2, ho_9_3, ho_9_4, ho_9_5, ho_9_6, ho_9_7, ho_9_8, ho_9_9, ho_9_10, ho_9_11, ho_9_12, ho_9_13, ho_9_14, ho_9_15⟩ := ho_9
    refine zw_zb0 (sf_X12_triesHand f1 f5 o_9_9 (by first | with_reducible assumption | exact ⟨by with_reducible assumption, by with_reducible assumption⟩ | ((try clear hj_39); (try clear hback_28); first | lia | grind [zu_at, zu_atL, zvn])) (by first | with_reducible assumption | exact ⟨by with_reducible assumption, by with_reducible assumption⟩ | ((try clear hj_39); (try clear hback_28); first | lia | grind [zu_at, zu_atL, zvn])) (by first | with_reducible assumption | exact ⟨by with_reducible assumption, by with_reducible assumption⟩ | ((try clear hj_39); (try clear hback_28); first | lia | grind [zu_at, zu_atL, zvn]))) (fun o_13 ho_13 => ?_)
    obtain ⟨ho_13_0, ho_13_1⟩ := ho_13
    refine zw_if (fun c11 => ?_) (fun c11 => ?_)
    · refine zw_if (fun c12 => ?_) (fun c12 => ?_)
      · refine zw_some ?_
        first | exact True.intro | ((try dsimp only); (repeat' apply And.intro) <;> first | with_reducible assumption | ((try clear hj_39); (try clear hback_28); first | lia | grind [zu_at, zu_atL, zvn]))
      refine zw_some ?_
      first | exact True.intro | ((try dsimp only); (repeat' apply And.intro) <;> first | with_reducible assumption | ((try clear hj_39); (try clear hback_28); first | lia | grind [zu_at, zu_atL, zvn]))
    refine zw_zb0 (sf_X12_triesGroup o_9_6 o_9_7 f1 f2 o_13 (by first | with_reducible assumption | exact ⟨by with_reducible assumption, by with_reducible assumption⟩ | ((try clear hj_39); (try clear hback_28); first | lia | grind [zu_at, zu_atL, zvn])) (by first | with_reducible assumption | exact ⟨by with_reducible assumption, by with_reducible assumption⟩ | ((try clear hj_39); (try clear hback_28); first | lia | grind [zu_at, zu_atL, zvn])) (by first | with_reducible assumption | exact ⟨by with_reducible assumption, by with_reducible assumption⟩ | ((try clear hj_39); (try clear hback_28); first | lia | grind [zu_at, zu_atL, zvn])) (by first | with_reducible assumption | exact ⟨by with_reducible assumption, by with_reducible assumption⟩ | ((try clear hj_39); (try clear hback_28); first | lia | grind [zu_at, zu_atL, zvn]))) (fun o_19 ho_19 => ?_)
    obtain ⟨ho_19_0, ho_19_1⟩ := ho_19
    refine zw_if (fun c13 => ?_) (fun c13 => ?_)
    · refine zw_some ?_
      first | exact True.intro | ((try dsimp only); (repeat' apply And.intro) <;> first | with_reducible assumption | ((try clear hj_39); (try clear hback_28); first | lia | grind [zu_at, zu_atL, zvn]))
    refine zw_some ?_
    first | exact True.intro | ((try dsimp only); (repeat' apply And.intro) <;> first | with_reducible assumption | ((try clear hj_39); (try clear hback_28); first | lia | grind [zu_at, zu_atL, zvn]))
  refine zw_some ?_
  first | exact True.intro | ((try dsimp only); (repeat' apply And.intro) <;> first | with_reducible assumption | ((try clear hj_39); (try clear hback_28); first | lia | grind [zu_at, zu_atL, zvn]))
set_option maxHeartbeats 4000000 in
set_option maxRecDepth 100000 in
theorem sf_X12_take (p1 : Int32) (v0_30 : Int32) (v0_33 : Int32) (w0_34 : Int64) (v0_38 : Int32) (v0_41 : Int32) (v0_42 : Int32) (v0_44 : Int32) (v0_45 : Int32) (v0_50 : Int32) (v0_51 : Int32) (v0_52 : Int32) (v0_53 : Int32) (f1 : Nat → Int32) (f2 : Nat → Int32) (f3 : Nat → Int32) (f4 : Nat → Int32) (f5 : Nat → Int32) (f6 : Nat → Int32) (f7 : Nat → Int32) (f8 : Nat → Int32) (f9 : Nat → Int32) (f10 : Nat → Int32) (f11 : Nat → Int32) (f12 : Nat → Int32) (f13 : Nat → Int64) (f14 : Nat → Int64) (f15 : Nat → Int64) (f16 : Nat → Int64) (f17 : Nat → Int32) (f18 : Nat → Int64) (f19 : Nat → Int32) (f20 : Nat → Int32) (f21 : Nat → Int32) (f22 : Nat → Int32) (f23 : Nat → Int32) (f24 : Nat → Int32) (f25 : Nat → Int32) (f26 : Nat → Int32) (h_v0_30 : 0 ≤ v0_30 ∧ v0_30 ≤ 14) (h_v0_38 : 0 ≤ v0_38 ∧ v0_38 ≤ 1) (h_v0_52 : (-1) ≤ v0_52 ∧ v0_52 ≤ 13) (h_v0_53 : (-1) ≤ v0_53 ∧ v0_53 ≤ 3) (h_f1 : (∀ i : Nat, 0 ≤ f1 i ∧ f1 i ≤ 14)) (h_f2 : (∀ i : Nat, 0 ≤ f2 i ∧ f2 i ≤ 13)) (h_f3 : (∀ i : Nat, (-1) ≤ f3 i ∧ f3 i ≤ 3)) (h_f4 : (∀ i : Nat, 0 ≤ f4 i ∧ f4 i ≤ 13)) (h_f5 : (∀ i : Nat, 0 ≤ f5 i ∧ f5 i ≤ 3)) (h_f6 : (∀ i : Nat, 0 ≤ f6 i ∧ f6 i ≤ 3)) (h_f8 : (∀ i : Nat, (-1) ≤ f8 i ∧ f8 i ≤ 13)) (h_f9 : (∀ i : Nat, (-1) ≤ f9 i ∧ f9 i ≤ 13)) (h_f11 : (∀ i : Nat, 0 ≤ f11 i ∧ f11 i ≤ 4)) (h_f21 : (∀ i : Nat, 0 ≤ f21 i ∧ f21 i ≤ 1)) (h_f22 : (∀ i : Nat, 0 ≤ f22 i ∧ f22 i ≤ 3)) (h_f23 : (∀ i : Nat, 0 ≤ f23 i ∧ f23 i ≤ 13)) (hx_0 : f1 (0 : Int32).toNatClampNeg ≤ 0 ∨ 1 ≤ f11 (0 : Int32).toNatClampNeg ∧ (∀ x : Int32, 0 ≤ x → x < f11 (0 : Int32).toNatClampNeg → 1 ≤ f17 x.toNatClampNeg) ∧ (∀ i : Nat, 1 ≤ f17 (f5 i).toNatClampNeg) ∧ (∀ i : Nat, 1 ≤ f17 (f6 i).toNatClampNeg) ∧ (∀ i : Nat, 1 ≤ f17 (f22 i).toNatClampNeg)) : zw (fn_X12_take p1 v0_30 v0_33 w0_34 v0_38 v0_41 v0_42 v0_44 v0_45 v0_50 v0_51 v0_52 v0_53 f1 f2 f3 f4 f5 f6 f7 f8 f9 f10 f11 f12 f13 f14 f15 f16 f17 f18 f19 f20 f21 f22 f23 f24 f25 f26) (fun r => 0 ≤ r.2.1 ∧ r.2.1 ≤ 14 ∧ (-1) ≤ r.2.2.2.2.2.2.2.2.2.1 ∧ r.2.2.2.2.2.2.2.2.2.1 ≤ 13 ∧ (-1) ≤ r.2.2.2.2.2.2.2.2.2.2.1 ∧ r.2.2.2.2.2.2.2.2.2.2.1 ≤ 3 ∧ (∀ i : Nat, 0 ≤ r.2.2.2.2.2.2.2.2.2.2.2.1 i ∧ r.2.2.2.2.2.2.2.2.2.2.2.1 i ≤ 13) ∧ (∀ i : Nat, 0 ≤ r.2.2.2.2.2.2.2.2.2.2.2.2.1 i ∧ r.2.2.2.2.2.2.2.2.2.2.2.2.1 i ≤ 3) ∧ (∀ i : Nat, 0 ≤ r.2.2.2.2.2.2.2.2.2.2.2.2.2.1 i ∧ r.2.2.2.2.2.2.2.2.2.2.2.2.2.1 i ≤ 3) ∧ (∀ i : Nat, 0 ≤ r.2.2.2.2.2.2.2.2.2.2.2.2.2.2.2.2.2.1 i ∧ r.2.2.2.2.2.2.2.2.2.2.2.2.2.2.2.2.2.1 i ≤ 1) ∧ (∀ i : Nat, 0 ≤ r.2.2.2.2.2.2.2.2.2.2.2.2.2.2.2.2.2.2.1 i ∧ r.2.2.2.2.2.2.2.2.2.2.2.2.2.2.2.2.2.2.1 i ≤ 3) ∧ (∀ i : Nat, 0 ≤ r.2.2.2.2.2.2.2.2.2.2.2.2.2.2.2.2.2.2.2.1 i ∧ r.2.2.2.2.2.2.2.2.2.2.2.2.2.2.2.2.2.2.2.1 i ≤ 13) ∧ (∀ i : Nat, r.2.2.2.2.2.2.2.2.2.2.2.2.1 i = f5 i ∨ r.2.2.2.2.2.2.2.2.2.2.2.2.1 i = f6 i ∨ r.2.2.2.2.2.2.2.2.2.2.2.2.1 i = f22 i ∨ 0 ≤ r.2.2.2.2.2.2.2.2.2.2.2.2.1 i ∧ r.2.2.2.2.2.2.2.2.2.2.2.2.1 i < f11 (0 : Int32).toNatClampNeg) ∧ (∀ i : Nat, r.2.2.2.2.2.2.2.2.2.2.2.2.2.1 i = f5 i ∨ r.2.2.2.2.2.2.2.2.2.2.2.2.2.1 i = f6 i ∨ r.2.2.2.2.2.2.2.2.2.2.2.2.2.1 i = f22 i ∨ 0 ≤ r.2.2.2.2.2.2.2.2.2.2.2.2.2.1 i ∧ r.2.2.2.2.2.2.2.2.2.2.2.2.2.1 i < f11 (0 : Int32).toNatClampNeg) ∧ (∀ i : Nat, r.2.2.2.2.2.2.2.2.2.2.2.2.2.2.2.2.2.2.1 i = f5 i ∨ r.2.2.2.2.2.2.2.2.2.2.2.2.2.2.2.2.2.2.1 i = f6 i ∨ r.2.2.2.2.2.2.2.2.2.2.2.2.2.2.2.2.2.2.1 i = f22 i ∨ 0 ≤ r.2.2.2.2.2.2.2.2.2.2.2.2.2.2.2.2.2.2.1 i ∧ r.2.2.2.2.2.2.2.2.2.2.2.2.2.2.2.2.2.2.1 i < f11 (0 : Int32).toNatClampNeg)) := by
  unfold fn_X12_take
  refine zw_zb0 (sf_X12_canTake p1 v0_30 v0_33 w0_34 v0_38 v0_41 v0_42 v0_44 v0_45 v0_50 v0_51 v0_52 v0_53 f1 f2 f3 f4 f5 f6 f7 f8 f9 f10 f11 f12 f13 f14 f15 f16 f17 f18 f19 f20 f21 f22 f23 f24 f25 (by first | with_reducible assumption | exact ⟨by with_reducible assumption, by with_reducible assumption⟩ | first | lia | grind [zu_at, zu_atL, zvn]) (by first | with_reducible assumption | exact ⟨by with_reducible assumption, by with_reducible assumption⟩ | first | lia | grind [zu_at, zu_atL, zvn]) (by first | with_reducible assumption | exact ⟨by with_reducible assumption, by with_reducible assumption⟩ | first | lia | grind [zu_at, zu_atL, zvn]) (by first | with_reducible assumption | exact ⟨by with_reducible assumption, by with_reducible assumption⟩ | first | lia | grind [zu_at, zu_atL, zvn]) (by first | with_reducible assumption | exact ⟨by with_reducible assumption, by with_reducible assumption⟩ | first | lia | grind [zu_at, zu_atL, zvn]) (by first | with_reducible assumption | exact ⟨by with_reducible assumption, by with_reducible assumption⟩ | first | lia | grind [zu_at, zu_atL, zvn]) (by first | with_reducible assumption | exact ⟨by with_reducible assumption, by with_reducible assumption⟩ | first | lia | grind [zu_at, zu_atL, zvn]) (by first | with_reducible assumption | exact ⟨by with_reducible assumption, by with_reducible assumption⟩ | first | lia | grind [zu_at, zu_atL, zvn]) (by first | with_reducible assumption | exact ⟨by with_reducible assumption, by with_reducible assumption⟩ | first | lia | grind [zu_at, zu_atL, zvn]) (by first | with_reducible assumption | exact ⟨by with_reducible assumption, by with_reducible assumption⟩ | first | lia | grind [zu_at, zu_atL, zvn]) (by first | with_reducible assumption | exact ⟨by with_reducible assumption, by with_reducible assumption⟩ | first | lia | grind [zu_at, zu_atL, zvn]) (by first | with_reducible assumption | exact ⟨by with_reducible assumption, by with_reducible assumption⟩ | first | lia | grind [zu_at, zu_atL, zvn]) (by first | with_reducible assumption | exact ⟨by with_reducible assumption, by with_reducible assumption⟩ | first | lia | grind [zu_at, zu_atL, zvn]) (by first | with_reducible assumption | exact ⟨by with_reducible assumption, by with_reducible assumption⟩ | first | lia | grind [zu_at, zu_atL, zvn]) (by first | with_reducible assumption | exact ⟨by with_reducible assumption, by with_reducible assumption⟩ | first | lia | grind [zu_at, zu_atL, zvn]) (by first | with_reducible assumption | exact ⟨by with_reducible assumption, by with_reducible assumption⟩ | first | lia | grind [zu_at, zu_atL, zvn]) (by first | with_reducible assumption | exact ⟨by with_reducible assumption, by with_reducible assumption⟩ | first | lia | grind [zu_at, zu_atL, zvn])) (fun o_1 ho_1 => ?_)
  obtain ⟨o_1_0, o_1_1, o_1_2, o_1_3, o_1_4, o_1_5, o_1_6, o_1_7, o_1_8, o_1_9, o_1_10, o_1_11, o_1_12, o_1_13, o_1_14, o_1_15, o_1_16, o_1_17, o_1_18, o_1_19, o_1_20⟩ := o_1
  try dsimp only at ho_1
  obtain ⟨ho_1_0, ho_1_1, ho_1_2, ho_1_3, ho_1_4, ho_1_5, ho_1_6, ho_1_7, ho_1_8, ho_1_9, ho_1_10, ho_1_11, ho_1_12, ho_1_13, ho_1_14⟩ := ho_1
  refine zw_if (fun c1 => ?_) (fun c1 => ?_)
  · refine zw_zb0 (sf_X12_refuses 2 f26 (by first | with_reducible assumption | exact ⟨by with_reducible assumption, by with_reducible assumption⟩ | first | lia | grind [zu_at, zu_atL, zvn])) (fun o_14 ho_14 => ?_)
    obtain ⟨o_14_0, o_14_1⟩ := o_14
    try dsimp only at ho_14
    obtain ⟨ho_14_0, ho_14_1⟩ := ho_14
    refine zw_some ?_
    first | exact True.intro | ((try dsimp only); (repeat' apply And.intro) <;> first | with_reducible assumption | first | lia | grind [zu_at, zu_atL, zvn])
  refine zw_zb0 (sf_X12_takesTried f1 o_1_12 f5 (by first | with_reducible assumption | exact ⟨by with_reducible assumption, by with_reducible assumption⟩ | first | lia | grind [zu_at, zu_atL, zvn]) (by first | with_reducible assumption | exact ⟨by with_reducible assumption, by with_reducible assumption⟩ | first | lia | grind [zu_at, zu_atL, zvn]) (by first | with_reducible assumption | exact ⟨by with_reducible assumption, by with_reducible assumption⟩ | first | lia | grind [zu_at, zu_atL, zvn])) (fun o_6 ho_6 => ?_)
  obtain ⟨ho_6_0, ho_6_1⟩ := ho_6
  refine zw_zb0 (sf_X12_costTried f7 f1 f8 o_1_12 f9 f10 (by first | with_reducible assumption | exact ⟨by with_reducible assumption, by with_reducible assumption⟩ | first | lia | grind [zu_at, zu_atL, zvn]) (by first | with_reducible assumption | exact ⟨by with_reducible assumption, by with_reducible assumption⟩ | first | lia | grind [zu_at, zu_atL, zvn]) (by first | with_reducible assumption | exact ⟨by with_reducible assumption, by with_reducible assumption⟩ | first | lia | grind [zu_at, zu_atL, zvn]) (by first | with_reducible assumption | exact ⟨by with_reducible assumption, by with_reducible assumption⟩ | first | lia | grind [zu_at, zu_atL, zvn])) (fun o_10 ho_10 => ?_)
  refine zw_some ?_
  first | exact True.intro | ((try dsimp only); (repeat' apply And.intro) <;> first | with_reducible assumption | first | lia | grind [zu_at, zu_atL, zvn])
set_option maxHeartbeats 4000000 in
set_option maxRecDepth 100000 in
theorem sf_X12_laysCouple (p1 : Int32) (j2 : Int64) (v0_57 : Int32) (f1 : Nat → Int32) (f2 : Nat → Int64) (f3 : Nat → Int32) (h_v0_57 : 0 ≤ v0_57 ∧ v0_57 ≤ 1023) : zw (fn_X12_laysCouple p1 j2 v0_57 f1 f2 f3) (fun r => 0 ≤ r.1 ∧ r.1 ≤ 1024 ∧ 1 ≤ r.1 ∧ v0_57 ≤ r.1 ∧ r.1 ≤ v0_57 + 1) := by
  unfold fn_X12_laysCouple
  refine zw_zl32 (fun s_1 => 0 ≤ s_1 ∧ s_1 ≤ 1023 ∧ s_1 ≤ v0_57) (fun s_1 => 1023 - s_1) (by (try dsimp only); (repeat' apply And.intro) <;> first | with_reducible assumption | first | lia | grind [zu_at, zu_atL, zvn]) (by (try dsimp only); first | lia | grind [zu_at, zu_atL, zvn]) (fun s_1 back_1 Hback_1 hback_1 => ?_)
  obtain ⟨Hback_1_0, Hback_1_1, Hback_1_2⟩ := Hback_1
  refine zw_zj (fun _ => True) (fun s_2 Hj_2 => ?_) (fun j_2 hj_2 => ?_)
  · refine zw_zj (fun _ => True) (fun s_3 Hj_3 => ?_) (fun j_3 hj_3 => ?_)
    · refine zw_zl32 (fun s_4 => 0 ≤ s_4.1 ∧ s_4.1 ≤ 1023 ∧ s_1 ≤ s_4.1 ∧ s_4.1 ≤ v0_57) (fun s_4 => s_4.1 - 0) (by (try dsimp only); (repeat' apply And.intro) <;> first | with_reducible assumption | ((try clear hback_1); (try clear hj_2); (try clear hj_3); first | lia | grind [zu_at, zu_atL, zvn])) (by (try dsimp only); ((try clear hback_1); (try clear hj_2); (try clear hj_3); first | lia | grind [zu_at, zu_atL, zvn])) (fun s_4 back_4 Hback_4 hback_4 => ?_)
      obtain ⟨s_4_0, s_4_1, s_4_2, s_4_3⟩ := s_4
      try dsimp only at Hback_4 hback_4
      obtain ⟨Hback_4_0, Hback_4_1, Hback_4_2, Hback_4_3⟩ := Hback_4
      refine zw_if (fun c1 => ?_) (fun c1 => ?_)
      · refine zw_zg32 1024 (by decide) (by (try dsimp only); ((try clear hback_1); (try clear hj_2); (try clear hj_3); (try clear hback_4); first | lia | grind [zu_at, zu_atL, zvn])) ?_
        refine zw_some ?_
        first | exact True.intro | ((try dsimp only); (repeat' apply And.intro) <;> first | with_reducible assumption | ((try clear hback_1); (try clear hj_2); (try clear hj_3); (try clear hback_4); first | lia | grind [zu_at, zu_atL, zvn]))
      refine zw_zg32 1024 (by decide) (by (try dsimp only); ((try clear hback_1); (try clear hj_2); (try clear hj_3); (try clear hback_4); first | lia | grind [zu_at, zu_atL, zvn])) ?_
      refine zw_zg32 1024 (by decide) (by (try dsimp only); ((try clear hback_1); (try clear hj_2); (try clear hj_3); (try clear hback_4); first | lia | grind [zu_at, zu_atL, zvn])) ?_
      refine zw_zn1 ?_
      refine zw_zn1 ?_
      refine zw_zn1 ?_
      exact hback_4 _ (by (try dsimp only); (repeat' apply And.intro) <;> first | with_reducible assumption | ((try clear hback_1); (try clear hj_2); (try clear hj_3); (try clear hback_4); first | lia | grind [zu_at, zu_atL, zvn])) (by (try dsimp only); ((try clear hback_1); (try clear hj_2); (try clear hj_3); (try clear hback_4); first | lia | grind [zu_at, zu_atL, zvn])) (by (try dsimp only); ((try clear hback_1); (try clear hj_2); (try clear hj_3); (try clear hback_4); first | lia | grind [zu_at, zu_atL, zvn]))
    refine zw_if (fun c2 => ?_) (fun c2 => ?_)
    · exact hj_3 _ (by first | exact True.intro | ((try dsimp only); (repeat' apply And.intro) <;> first | with_reducible assumption | ((try clear hback_1); (try clear hj_2); (try clear hj_3); (try clear hback_4); first | lia | grind [zu_at, zu_atL, zvn])))
    refine zw_zg32 1024 (by decide) (by (try dsimp only); ((try clear hback_1); (try clear hj_2); (try clear hj_3); (try clear hback_4); first | lia | grind [zu_at, zu_atL, zvn])) ?_
    refine zw_if (fun c3 => ?_) (fun c3 => ?_)
    · refine zw_ifc (lg_cmp_eq _ _) (fun c4 => ?_) (fun c4 => ?_)
      · refine zw_some ?_
        first | exact True.intro | ((try dsimp only); (repeat' apply And.intro) <;> first | with_reducible assumption | ((try clear hback_1); (try clear hj_2); (try clear hj_3); (try clear hback_4); first | lia | grind [zu_at, zu_atL, zvn]))
      exact hj_3 _ (by first | exact True.intro | ((try dsimp only); (repeat' apply And.intro) <;> first | with_reducible assumption | ((try clear hback_1); (try clear hj_2); (try clear hj_3); (try clear hback_4); first | lia | grind [zu_at, zu_atL, zvn])))
    exact hj_3 _ (by first | exact True.intro | ((try dsimp only); (repeat' apply And.intro) <;> first | with_reducible assumption | ((try clear hback_1); (try clear hj_2); (try clear hj_3); (try clear hback_4); first | lia | grind [zu_at, zu_atL, zvn])))
  refine zw_if (fun c5 => ?_) (fun c5 => ?_)
  · exact hj_2 _ (by first | exact True.intro | ((try dsimp only); (repeat' apply And.intro) <;> first | with_reducible assumption | ((try clear hback_1); (try clear hj_2); (try clear hj_3); (try clear hback_4); first | lia | grind [zu_at, zu_atL, zvn])))
  refine zw_zg32 1024 (by decide) (by (try dsimp only); ((try clear hback_1); (try clear hj_2); (try clear hj_3); (try clear hback_4); first | lia | grind [zu_at, zu_atL, zvn])) ?_
  refine zw_if (fun c6 => ?_) (fun c6 => ?_)
  · exact hback_1 _ (by (try dsimp only); (repeat' apply And.intro) <;> first | with_reducible assumption | ((try clear hback_1); (try clear hj_2); (try clear hj_3); (try clear hback_4); first | lia | grind [zu_at, zu_atL, zvn])) (by (try dsimp only); ((try clear hback_1); (try clear hj_2); (try clear hj_3); (try clear hback_4); first | lia | grind [zu_at, zu_atL, zvn])) (by (try dsimp only); ((try clear hback_1); (try clear hj_2); (try clear hj_3); (try clear hback_4); first | lia | grind [zu_at, zu_atL, zvn]))
  refine zw_if (fun c7 => ?_) (fun c7 => ?_)
  · refine zw_ifc (lg_cmp_ge _ _) (fun c8 => ?_) (fun c8 => ?_)
    · exact hj_2 _ (by first | exact True.intro | ((try dsimp only); (repeat' apply And.intro) <;> first | with_reducible assumption | ((try clear hback_1); (try clear hj_2); (try clear hj_3); (try clear hback_4); first | lia | grind [zu_at, zu_atL, zvn])))
    exact hback_1 _ (by (try dsimp only); (repeat' apply And.intro) <;> first | with_reducible assumption | ((try clear hback_1); (try clear hj_2); (try clear hj_3); (try clear hback_4); first | lia | grind [zu_at, zu_atL, zvn])) (by (try dsimp only); ((try clear hback_1); (try clear hj_2); (try clear hj_3); (try clear hback_4); first | lia | grind [zu_at, zu_atL, zvn])) (by (try dsimp only); ((try clear hback_1); (try clear hj_2); (try clear hj_3); (try clear hback_4); first | lia | grind [zu_at, zu_atL, zvn]))
  exact hj_2 _ (by first | exact True.intro | ((try dsimp only); (repeat' apply And.intro) <;> first | with_reducible assumption | ((try clear hback_1); (try clear hj_2); (try clear hj_3); (try clear hback_4); first | lia | grind [zu_at, zu_atL, zvn])))
set_option maxHeartbeats 4000000 in
set_option maxRecDepth 100000 in
theorem sf_X12_laysFront (p1 : Int32) (v0_30 : Int32) (v0_33 : Int32) (w0_34 : Int64) (v0_41 : Int32) (v0_42 : Int32) (f1 : Nat → Int32) (f2 : Nat → Int32) (f3 : Nat → Int32) (f4 : Nat → Int32) (f5 : Nat → Int32) (f6 : Nat → Int32) (f7 : Nat → Int32) (f8 : Nat → Int32) (f9 : Nat → Int32) (f10 : Nat → Int64) (f11 : Nat → Int64) (f12 : Nat → Int64) (f13 : Nat → Int64) (f14 : Nat → Int32) (f15 : Nat → Int64) (f16 : Nat → Int32) (f17 : Nat → Int32) (f18 : Nat → Int32) (f19 : Nat → Int32) (f20 : Nat → Int32) (f21 : Nat → Int64) (f22 : Nat → Int32) (h_p1 : 0 ≤ p1 ∧ p1 ≤ 13) (h_v0_30 : 0 ≤ v0_30 ∧ v0_30 ≤ 5) (h_f1 : (∀ i : Nat, 0 ≤ f1 i ∧ f1 i ≤ 4)) (h_f2 : (∀ i : Nat, 0 ≤ f2 i ∧ f2 i ≤ 14)) (h_f3 : (∀ i : Nat, 0 ≤ f3 i ∧ f3 i ≤ 3)) (h_f4 : (∀ i : Nat, 0 ≤ f4 i ∧ f4 i ≤ 3)) (h_f5 : (∀ i : Nat, 0 ≤ f5 i ∧ f5 i ≤ 13)) (h_f6 : (∀ i : Nat, 0 ≤ f6 i ∧ f6 i ≤ 13)) (h_f8 : (∀ i : Nat, (-1) ≤ f8 i ∧ f8 i ≤ 13)) (h_f9 : (∀ i : Nat, (-1) ≤ f9 i ∧ f9 i ≤ 13)) (hr_0 : 1 ≤ (f1 (0 : Int32).toNatClampNeg)) (hx_0 : (∀ x : Int32, 0 ≤ x → x < f1 (0 : Int32).toNatClampNeg → 1 ≤ f14 x.toNatClampNeg)) (hx_1 : (∀ i : Nat, 1 ≤ f14 (f3 i).toNatClampNeg)) (hx_2 : (∀ i : Nat, 1 ≤ f14 (f4 i).toNatClampNeg)) : zw (fn_X12_laysFront p1 v0_30 v0_33 w0_34 v0_41 v0_42 f1 f2 f3 f4 f5 f6 f7 f8 f9 f10 f11 f12 f13 f14 f15 f16 f17 f18 f19 f20 f21 f22) (fun r => 0 ≤ r.2.2.1 ∧ r.2.2.1 ≤ 1024 ∧ (∀ i : Nat, 0 ≤ r.2.2.2.1 i ∧ r.2.2.2.1 i ≤ 3) ∧ (∀ i : Nat, r.2.2.2.1 i = f3 i ∨ r.2.2.2.1 i = f4 i ∨ 0 ≤ r.2.2.2.1 i ∧ r.2.2.2.1 i < f1 (0 : Int32).toNatClampNeg)) := by
  unfold fn_X12_laysFront
  refine zw_zb0 (sf_X12_allChoices v0_30 f1 (by first | with_reducible assumption | exact ⟨by with_reducible assumption, by with_reducible assumption⟩ | first | lia | grind [zu_at, zu_atL, zvn]) (by first | with_reducible assumption | exact ⟨by with_reducible assumption, by with_reducible assumption⟩ | first | lia | grind [zu_at, zu_atL, zvn])) (fun o_1 ho_1 => ?_)
  obtain ⟨ho_1_0, ho_1_1⟩ := ho_1
  refine zw_zl32 (fun s_5 => (∀ i : Nat, 0 ≤ s_5.2.2.2.2.2.2.1 i ∧ s_5.2.2.2.2.2.2.1 i ≤ 3) ∧ 0 ≤ s_5.1 ∧ s_5.1 ≤ 1024 ∧ 0 ≤ s_5.2.2.2.1 ∧ s_5.2.2.2.1 ≤ 1024 ∧ s_5.1 ≤ o_1 ∧ s_5.2.2.2.1 ≤ o_1 ∧ s_5.2.2.2.1 ≤ s_5.1 ∧ (∀ i : Nat, s_5.2.2.2.2.2.2.1 i = f3 i ∨ s_5.2.2.2.2.2.2.1 i = f4 i ∨ 0 ≤ s_5.2.2.2.2.2.2.1 i ∧ s_5.2.2.2.2.2.2.1 i < f1 (0 : Int32).toNatClampNeg)) (fun s_5 => 1024 - s_5.1) (by (try dsimp only); (repeat' apply And.intro) <;> first | with_reducible assumption | first | lia | grind [zu_at, zu_atL, zvn]) (by (try dsimp only); first | lia | grind [zu_at, zu_atL, zvn]) (fun s_5 back_5 Hback_5 hback_5 => ?_)
  obtain ⟨s_5_0, s_5_1, s_5_2, s_5_3, s_5_4, s_5_5, s_5_6, s_5_7, s_5_8, s_5_9, s_5_10⟩ := s_5
  try dsimp only at Hback_5 hback_5
  obtain ⟨Hback_5_0, Hback_5_1, Hback_5_2, Hback_5_3, Hback_5_4, Hback_5_5, Hback_5_6, Hback_5_7, Hback_5_8⟩ := Hback_5
  refine zw_if (fun c1 => ?_) (fun c1 => ?_)
  · refine zw_zl32 (fun s_7 => 0 ≤ s_7.1 ∧ s_7.1 ≤ 1024 ∧ 0 ≤ s_7.2.1 ∧ s_7.2.1 ≤ 1024 ∧ s_7.1 ≤ o_1 ∧ s_7.2.1 ≤ o_1 ∧ s_7.1 ≤ s_7.2.1 ∧ s_7.1 ≤ s_5_3 ∧ s_7.2.1 ≤ s_5_3) (fun s_7 => 1024 - s_7.2.1) (by (try dsimp only); (repeat' apply And.intro) <;> first | with_reducible assumption | ((try clear hback_5); first | lia | grind [zu_at, zu_atL, zvn])) (by (try dsimp only); ((try clear hback_5); first | lia | grind [zu_at, zu_atL, zvn])) (fun s_7 back_7 Hback_7 hback_7 => ?_)
    obtain ⟨s_7_0, s_7_1, s_7_2, s_7_3, s_7_4⟩ := s_7
    try dsimp only at Hback_7 hback_7
    obtain ⟨Hback_7_0, Hback_7_1, Hback_7_2, Hback_7_3, Hback_7_4, Hback_7_5, Hback_7_6, Hback_7_7, Hback_7_8⟩ := Hback_7
    refine zw_if (fun c2 => ?_) (fun c2 => ?_)
    · refine zw_some ?_
      first | exact True.intro | ((try dsimp only); (repeat' apply And.intro) <;> first | with_reducible assumption | ((try clear hback_5); (try clear hback_7); first | lia | grind [zu_at, zu_atL, zvn]))
    refine zw_zj (fun _ => True) (fun s_9 Hj_9 => ?_) (fun j_9 hj_9 => ?_)
    · refine zw_zg32 1024 (by decide) (by (try dsimp only); ((try clear hback_5); (try clear hback_7); (try clear hj_9); first | lia | grind [zu_at, zu_atL, zvn])) ?_
      refine zw_zg32 1024 (by decide) (by (try dsimp only); ((try clear hback_5); (try clear hback_7); (try clear hj_9); first | lia | grind [zu_at, zu_atL, zvn])) ?_
      refine zw_zn1 ?_
      refine zw_zn1 ?_
      refine zw_zn1 ?_
      exact hback_7 _ (by (try dsimp only); (repeat' apply And.intro) <;> first | with_reducible assumption | ((try clear hback_5); (try clear hback_7); (try clear hj_9); first | lia | grind [zu_at, zu_atL, zvn])) (by (try dsimp only); ((try clear hback_5); (try clear hback_7); (try clear hj_9); first | lia | grind [zu_at, zu_atL, zvn])) (by (try dsimp only); ((try clear hback_5); (try clear hback_7); (try clear hj_9); first | lia | grind [zu_at, zu_atL, zvn]))
    refine zw_if (fun c3 => ?_) (fun c3 => ?_)
    · exact hj_9 _ (by first | exact True.intro | ((try dsimp only); (repeat' apply And.intro) <;> first | with_reducible assumption | ((try clear hback_5); (try clear hback_7); (try clear hj_9); first | lia | grind [zu_at, zu_atL, zvn])))
    refine zw_zg32 1024 (by decide) (by (try dsimp only); ((try clear hback_5); (try clear hback_7); (try clear hj_9); first | lia | grind [zu_at, zu_atL, zvn])) ?_
    refine zw_zg32 1024 (by decide) (by (try dsimp only); ((try clear hback_5); (try clear hback_7); (try clear hj_9); first | lia | grind [zu_at, zu_atL, zvn])) ?_
    refine zw_ifc (lg_cmp_lt _ _) (fun c4 => ?_) (fun c4 => ?_)
    · exact hj_9 _ (by first | exact True.intro | ((try dsimp only); (repeat' apply And.intro) <;> first | with_reducible assumption | ((try clear hback_5); (try clear hback_7); (try clear hj_9); first | lia | grind [zu_at, zu_atL, zvn])))
    exact hback_7 _ (by (try dsimp only); (repeat' apply And.intro) <;> first | with_reducible assumption | ((try clear hback_5); (try clear hback_7); (try clear hj_9); first | lia | grind [zu_at, zu_atL, zvn])) (by (try dsimp only); ((try clear hback_5); (try clear hback_7); (try clear hj_9); first | lia | grind [zu_at, zu_atL, zvn])) (by (try dsimp only); ((try clear hback_5); (try clear hback_7); (try clear hj_9); first | lia | grind [zu_at, zu_atL, zvn]))
  refine zw_zb0 (sf_X12_triesChoice s_5_0 v0_30 f2 f3 s_5_6 f5 f1 f6 (by first | with_reducible assumption | exact ⟨by with_reducible assumption, by with_reducible assumption⟩ | ((try clear hback_5); (try clear hback_7); (try clear hj_9); first | lia | grind [zu_at, zu_atL, zvn])) (by first | with_reducible assumption | exact ⟨by with_reducible assumption, by with_reducible assumption⟩ | ((try clear hback_5); (try clear hback_7); (try clear hj_9); first | lia | grind [zu_at, zu_atL, zvn])) (by first | with_reducible assumption | exact ⟨by with_reducible assumption, by with_reducible assumption⟩ | ((try clear hback_5); (try clear hback_7); (try clear hj_9); first | lia | grind [zu_at, zu_atL, zvn])) (by first | with_reducible assumption | exact ⟨by with_reducible assumption, by with_reducible assumption⟩ | ((try clear hback_5); (try clear hback_7); (try clear hj_9); first | lia | grind [zu_at, zu_atL, zvn])) (by first | with_reducible assumption | exact ⟨by with_reducible assumption, by with_reducible assumption⟩ | ((try clear hback_5); (try clear hback_7); (try clear hj_9); first | lia | grind [zu_at, zu_atL, zvn])) (by first | with_reducible assumption | exact ⟨by with_reducible assumption, by with_reducible assumption⟩ | ((try clear hback_5); (try clear hback_7); (try clear hj_9); first | lia | grind [zu_at, zu_atL, zvn])) (by first | with_reducible assumption | exact ⟨by with_reducible assumption, by with_reducible assumption⟩ | ((try clear hback_5); (try clear hback_7); (try clear hj_9); first | lia | grind [zu_at, zu_atL, zvn])) (by first | with_reducible assumption | exact ⟨by with_reducible assumption, by with_reducible assumption⟩ | ((try clear hback_5); (try clear hback_7); (try clear hj_9); first | lia | grind [zu_at, zu_atL, zvn])) (by first | with_reducible assumption | exact ⟨by with_reducible assumption, by with_reducible assumption⟩ | ((try clear hback_5); (try clear hback_7); (try clear hj_9); first | lia | grind [zu_at, zu_atL, zvn]))) (fun o_19 ho_19 => ?_)
  obtain ⟨ho_19_0, ho_19_1⟩ := ho_19
  refine zw_zb0 (sf_X12_passes v0_33 w0_34 f2 f7 f8 f9 s_5_4 f11 f12 s_5_5 o_19 f14 s_5_7 f16 f17 (by first | with_reducible assumption | exact ⟨by with_reducible assumption, by with_reducible assumption⟩ | ((try clear hback_5); (try clear hback_7); (try clear hj_9); first | lia | grind [zu_at, zu_atL, zvn])) (by first | with_reducible assumption | exact ⟨by with_reducible assumption, by with_reducible assumption⟩ | ((try clear hback_5); (try clear hback_7); (try clear hj_9); first | lia | grind [zu_at, zu_atL, zvn])) (by first | with_reducible assumption | exact ⟨by with_reducible assumption, by with_reducible assumption⟩ | ((try clear hback_5); (try clear hback_7); (try clear hj_9); first | lia | grind [zu_at, zu_atL, zvn])) (by first | with_reducible assumption | exact ⟨by with_reducible assumption, by with_reducible assumption⟩ | ((try clear hback_5); (try clear hback_7); (try clear hj_9); first | lia | grind [zu_at, zu_atL, zvn])) (by first | with_reducible assumption | exact ⟨by with_reducible assumption, by with_reducible assumption⟩ | ((try clear hback_5); (try clear hback_7); (try clear hj_9); first | lia | grind [zu_at, zu_atL, zvn]))) (fun o_23 ho_23 => ?_)
  obtain ⟨o_23_0, o_23_1, o_23_2, o_23_3, o_23_4, o_23_5⟩ := o_23
  try dsimp only at ho_23
  obtain ⟨ho_23_0, ho_23_1, ho_23_2, ho_23_3, ho_23_4, ho_23_5, ho_23_6, ho_23_7, ho_23_8, ho_23_9, ho_23_10, ho_23_11, ho_23_12⟩ := ho_23
  refine zw_if (fun c5 => ?_) (fun c5 => ?_)
  · exact hback_5 _ (by (try dsimp only); (repeat' apply And.intro) <;> first | with_reducible assumption | ((try clear hback_5); (try clear hback_7); (try clear hj_9); first | lia | grind [zu_at, zu_atL, zvn])) (by (try dsimp only); ((try clear hback_5); (try clear hback_7); (try clear hj_9); first | lia | grind [zu_at, zu_atL, zvn])) (by (try dsimp only); ((try clear hback_5); (try clear hback_7); (try clear hj_9); first | lia | grind [zu_at, zu_atL, zvn]))
  refine zw_zb0 (sf_X12_costTried f18 f2 f8 o_19 f9 f19 (by first | with_reducible assumption | exact ⟨by with_reducible assumption, by with_reducible assumption⟩ | ((try clear hback_5); (try clear hback_7); (try clear hj_9); first | lia | grind [zu_at, zu_atL, zvn])) (by first | with_reducible assumption | exact ⟨by with_reducible assumption, by with_reducible assumption⟩ | ((try clear hback_5); (try clear hback_7); (try clear hj_9); first | lia | grind [zu_at, zu_atL, zvn])) (by first | with_reducible assumption | exact ⟨by with_reducible assumption, by with_reducible assumption⟩ | ((try clear hback_5); (try clear hback_7); (try clear hj_9); first | lia | grind [zu_at, zu_atL, zvn])) (by first | with_reducible assumption | exact ⟨by with_reducible assumption, by with_reducible assumption⟩ | ((try clear hback_5); (try clear hback_7); (try clear hj_9); first | lia | grind [zu_at, zu_atL, zvn]))) (fun o_28 ho_28 => ?_)
  refine zw_zg32 14 (by decide) (by (try dsimp only); ((try clear hback_5); (try clear hback_7); (try clear hj_9); first | lia | grind [zu_at, zu_atL, zvn])) ?_
  refine zw_zb0 (sf_X12_laysCouple o_28 (o_23_5 p1.toNatClampNeg) s_5_3 s_5_8 s_5_9 s_5_10 (by first | with_reducible assumption | exact ⟨by with_reducible assumption, by with_reducible assumption⟩ | ((try clear hback_5); (try clear hback_7); (try clear hj_9); first | lia | grind [zu_at, zu_atL, zvn]))) (fun o_33 ho_33 => ?_)
  obtain ⟨o_33_0, o_33_1, o_33_2, o_33_3⟩ := o_33
  try dsimp only at ho_33
  obtain ⟨ho_33_0, ho_33_1, ho_33_2, ho_33_3, ho_33_4⟩ := ho_33
  exact hback_5 _ (by (try dsimp only); (repeat' apply And.intro) <;> first | with_reducible assumption | ((try clear hback_5); (try clear hback_7); (try clear hj_9); first | lia | grind [zu_at, zu_atL, zvn])) (by (try dsimp only); ((try clear hback_5); (try clear hback_7); (try clear hj_9); first | lia | grind [zu_at, zu_atL, zvn])) (by (try dsimp only); ((try clear hback_5); (try clear hback_7); (try clear hj_9); first | lia | grind [zu_at, zu_atL, zvn]))
set_option maxHeartbeats 4000000 in
set_option maxRecDepth 100000 in
theorem sf_X12_front (p1 : Int32) (p2 : Int32) (p3 : Int32) (v0_30 : Int32) (v0_33 : Int32) (w0_34 : Int64) (v0_38 : Int32) (v0_41 : Int32) (v0_42 : Int32) (v0_57 : Int32) (f1 : Nat → Int32) (f2 : Nat → Int32) (f3 : Nat → Int32) (f4 : Nat → Int32) (f5 : Nat → Int32) (f6 : Nat → Int32) (f7 : Nat → Int32) (f8 : Nat → Int32) (f9 : Nat → Int32) (f10 : Nat → Int32) (f11 : Nat → Int32) (f12 : Nat → Int64) (f13 : Nat → Int64) (f14 : Nat → Int64) (f15 : Nat → Int64) (f16 : Nat → Int32) (f17 : Nat → Int64) (f18 : Nat → Int32) (f19 : Nat → Int32) (f20 : Nat → Int32) (f21 : Nat → Int32) (f22 : Nat → Int64) (f23 : Nat → Int32) (h_v0_30 : 0 ≤ v0_30 ∧ v0_30 ≤ 14) (h_v0_38 : 0 ≤ v0_38 ∧ v0_38 ≤ 1) (h_v0_57 : 0 ≤ v0_57 ∧ v0_57 ≤ 1024) (h_f1 : (∀ i : Nat, 0 ≤ f1 i ∧ f1 i ≤ 14)) (h_f3 : (∀ i : Nat, 0 ≤ f3 i ∧ f3 i ≤ 13)) (h_f4 : (∀ i : Nat, (-1) ≤ f4 i ∧ f4 i ≤ 3)) (h_f5 : (∀ i : Nat, 0 ≤ f5 i ∧ f5 i ≤ 13)) (h_f6 : (∀ i : Nat, 0 ≤ f6 i ∧ f6 i ≤ 4)) (h_f7 : (∀ i : Nat, 0 ≤ f7 i ∧ f7 i ≤ 3)) (h_f8 : (∀ i : Nat, 0 ≤ f8 i ∧ f8 i ≤ 3)) (h_f10 : (∀ i : Nat, (-1) ≤ f10 i ∧ f10 i ≤ 13)) (h_f11 : (∀ i : Nat, (-1) ≤ f11 i ∧ f11 i ≤ 13)) (hx_0 : f1 (0 : Int32).toNatClampNeg ≤ 0 ∨ 1 ≤ f6 (0 : Int32).toNatClampNeg ∧ (∀ x : Int32, 0 ≤ x → x < f6 (0 : Int32).toNatClampNeg → 1 ≤ f16 x.toNatClampNeg) ∧ (∀ i : Nat, 1 ≤ f16 (f7 i).toNatClampNeg) ∧ (∀ i : Nat, 1 ≤ f16 (f8 i).toNatClampNeg)) : zw (fn_X12_front p1 p2 p3 v0_30 v0_33 w0_34 v0_38 v0_41 v0_42 v0_57 f1 f2 f3 f4 f5 f6 f7 f8 f9 f10 f11 f12 f13 f14 f15 f16 f17 f18 f19 f20 f21 f22 f23) (fun r => 0 ≤ r.2.1 ∧ r.2.1 ≤ 14 ∧ 0 ≤ r.2.2.2.2.2.1 ∧ r.2.2.2.2.2.1 ≤ 1024 ∧ (∀ i : Nat, 0 ≤ r.2.2.2.2.2.2.1 i ∧ r.2.2.2.2.2.2.1 i ≤ 13) ∧ (∀ i : Nat, 0 ≤ r.2.2.2.2.2.2.2.1 i ∧ r.2.2.2.2.2.2.2.1 i ≤ 3) ∧ (∀ i : Nat, r.2.2.2.2.2.2.2.1 i = f7 i ∨ r.2.2.2.2.2.2.2.1 i = f8 i ∨ 0 ≤ r.2.2.2.2.2.2.2.1 i ∧ r.2.2.2.2.2.2.2.1 i < f6 (0 : Int32).toNatClampNeg)) := by
  unfold fn_X12_front
  refine zw_zb0 (sf_X12_isAnswer p1 f1 f2 (by first | with_reducible assumption | exact ⟨by with_reducible assumption, by with_reducible assumption⟩ | first | lia | grind [zu_at, zu_atL, zvn])) (fun o_1 ho_1 => ?_)
  obtain ⟨ho_1_0, ho_1_1, ho_1_2, ho_1_3, ho_1_4, ho_1_5⟩ := ho_1
  refine zw_if (fun c1 => ?_) (fun c1 => ?_)
  · refine zw_some ?_
    first | exact True.intro | ((try dsimp only); (repeat' apply And.intro) <;> first | with_reducible assumption | first | lia | grind [zu_at, zu_atL, zvn])
  refine zw_zb0 (sf_X12_canSearch v0_38 f1 f3 f4 f5 (by first | with_reducible assumption | exact ⟨by with_reducible assumption, by with_reducible assumption⟩ | first | lia | grind [zu_at, zu_atL, zvn]) (by first | with_reducible assumption | exact ⟨by with_reducible assumption, by with_reducible assumption⟩ | first | lia | grind [zu_at, zu_atL, zvn]) (by first | with_reducible assumption | exact ⟨by with_reducible assumption, by with_reducible assumption⟩ | first | lia | grind [zu_at, zu_atL, zvn]) (by first | with_reducible assumption | exact ⟨by with_reducible assumption, by with_reducible assumption⟩ | first | lia | grind [zu_at, zu_atL, zvn]) (by first | with_reducible assumption | exact ⟨by with_reducible assumption, by with_reducible assumption⟩ | first | lia | grind [zu_at, zu_atL, zvn])) (fun o_6 ho_6 => ?_)
  obtain ⟨o_6_0, o_6_1, o_6_2, o_6_3⟩ := o_6
  try dsimp only at ho_6
  obtain ⟨ho_6_0, ho_6_1, ho_6_2, ho_6_3, ho_6_4, ho_6_5, ho_6_6, ho_6_7, ho_6_8, ho_6_9, ho_6_10, ho_6_11, ho_6_12⟩ := ho_6
  refine zw_if (fun c2 => ?_) (fun c2 => ?_)
  · refine zw_some ?_
    first | exact True.intro | ((try dsimp only); (repeat' apply And.intro) <;> first | with_reducible assumption | first | lia | grind [zu_at, zu_atL, zvn])
  refine zw_zb0 (sf_X12_isIn p3.toInt64 (0 : Int64) (2 : Int64)) (fun o_11 ho_11 => ?_)
  obtain ⟨ho_11_0, ho_11_1, ho_11_2, ho_11_3, ho_11_4⟩ := ho_11
  refine zw_if (fun c3 => ?_) (fun c3 => ?_)
  · refine zw_some ?_
    first | exact True.intro | ((try dsimp only); (repeat' apply And.intro) <;> first | with_reducible assumption | first | lia | grind [zu_at, zu_atL, zvn])
  refine zw_zb0 (sf_X12_laysFront p1 o_6_1 o_6_2 w0_34 v0_41 v0_42 f6 f1 f7 f8 o_6_3 f3 f9 f10 f11 f12 f13 f14 f15 f16 f17 f18 f2 f19 f20 f21 f22 f23 (by first | with_reducible assumption | exact ⟨by with_reducible assumption, by with_reducible assumption⟩ | first | lia | grind [zu_at, zu_atL, zvn]) (by first | with_reducible assumption | exact ⟨by with_reducible assumption, by with_reducible assumption⟩ | first | lia | grind [zu_at, zu_atL, zvn]) (by first | with_reducible assumption | exact ⟨by with_reducible assumption, by with_reducible assumption⟩ | first | lia | grind [zu_at, zu_atL, zvn]) (by first | with_reducible assumption | exact ⟨by with_reducible assumption, by with_reducible assumption⟩ | first | lia | grind [zu_at, zu_atL, zvn]) (by first | with_reducible assumption | exact ⟨by with_reducible assumption, by with_reducible assumption⟩ | first | lia | grind [zu_at, zu_atL, zvn]) (by first | with_reducible assumption | exact ⟨by with_reducible assumption, by with_reducible assumption⟩ | first | lia | grind [zu_at, zu_atL, zvn]) (by first | with_reducible assumption | exact ⟨by with_reducible assumption, by with_reducible assumption⟩ | first | lia | grind [zu_at, zu_atL, zvn]) (by first | with_reducible assumption | exact ⟨by with_reducible assumption, by with_reducible assumption⟩ | first | lia | grind [zu_at, zu_atL, zvn]) (by first | with_reducible assumption | exact ⟨by with_reducible assumption, by with_reducible assumption⟩ | first | lia | grind [zu_at, zu_atL, zvn]) (by first | with_reducible assumption | exact ⟨by with_reducible assumption, by with_reducible assumption⟩ | first | lia | grind [zu_at, zu_atL, zvn]) (by first | with_reducible assumption | exact ⟨by with_reducible assumption, by with_reducible assumption⟩ | first | lia | grind [zu_at, zu_atL, zvn]) (by first | with_reducible assumption | exact ⟨by with_reducible assumption, by with_reducible assumption⟩ | first | lia | grind [zu_at, zu_atL, zvn]) (by first | with_reducible assumption | exact ⟨by with_reducible assumption, by with_reducible assumption⟩ | first | lia | grind [zu_at, zu_atL, zvn]) (by first | with_reducible assumption | exact ⟨by with_reducible assumption, by with_reducible assumption⟩ | first | lia | grind [zu_at, zu_atL, zvn])) (fun o_16 ho_16 => ?_)
  obtain ⟨o_16_0, o_16_1, o_16_2, o_16_3, o_16_4, o_16_5, o_16_6, o_16_7, o_16_8, o_16_9⟩ := o_16
  try dsimp only at ho_16
  obtain ⟨ho_16_0, ho_16_1, ho_16_2, ho_16_3⟩ := ho_16
  refine zw_if (fun c4 => ?_) (fun c4 => ?_)
  · refine zw_if (fun c5 => ?_) (fun c5 => ?_)
    · refine zw_some ?_
      first | exact True.intro | ((try dsimp only); (repeat' apply And.intro) <;> first | with_reducible assumption | first | lia | grind [zu_at, zu_atL, zvn])
    refine zw_some ?_
    first | exact True.intro | ((try dsimp only); (repeat' apply And.intro) <;> first | with_reducible assumption | first | lia | grind [zu_at, zu_atL, zvn])
  refine zw_zb0 (sf_X12_isIn p2.toInt64 (0 : Int64) (o_16_2.toInt64 - (1 : Int64))) (fun o_21 ho_21 => ?_)
  obtain ⟨ho_21_0, ho_21_1, ho_21_2, ho_21_3, ho_21_4⟩ := ho_21
  refine zw_if (fun c6 => ?_) (fun c6 => ?_)
  · refine zw_some ?_
    first | exact True.intro | ((try dsimp only); (repeat' apply And.intro) <;> first | with_reducible assumption | first | lia | grind [zu_at, zu_atL, zvn])
  have hz1 := z64_ge0 p2
  have hz2 := z64_ltm p2 o_16_2 (by lia)
  have hz3 : 0 ≤ p2 ∧ p2 < o_16_2 := by grind
  refine zw_if (fun c7 => ?_) (fun c7 => ?_)
  · refine zw_zg32 1024 (by decide) (by (try dsimp only); first | lia | grind [zu_at, zu_atL, zvn]) ?_
    refine zw_some ?_
    first | exact True.intro | ((try dsimp only); (repeat' apply And.intro) <;> first | with_reducible assumption | first | lia | grind [zu_at, zu_atL, zvn])
  refine zw_if (fun c8 => ?_) (fun c8 => ?_)
  · refine zw_zg32 1024 (by decide) (by (try dsimp only); first | lia | grind [zu_at, zu_atL, zvn]) ?_
    refine zw_some ?_
    first | exact True.intro | ((try dsimp only); (repeat' apply And.intro) <;> first | with_reducible assumption | first | lia | grind [zu_at, zu_atL, zvn])
  refine zw_zg32 1024 (by decide) (by (try dsimp only); first | lia | grind [zu_at, zu_atL, zvn]) ?_
  refine zw_some ?_
  first | exact True.intro | ((try dsimp only); (repeat' apply And.intro) <;> first | with_reducible assumption | first | lia | grind [zu_at, zu_atL, zvn])
set_option maxHeartbeats 4000000 in
set_option maxRecDepth 100000 in
theorem sf_X12_least (p1 : Int32) (p2 : Int32) (v0_30 : Int32) (v0_33 : Int32) (w0_34 : Int64) (v0_38 : Int32) (v0_41 : Int32) (v0_42 : Int32) (f1 : Nat → Int32) (f2 : Nat → Int32) (f3 : Nat → Int32) (f4 : Nat → Int32) (f5 : Nat → Int32) (f6 : Nat → Int32) (f7 : Nat → Int32) (f8 : Nat → Int32) (f9 : Nat → Int32) (f10 : Nat → Int32) (f11 : Nat → Int32) (f12 : Nat → Int32) (f13 : Nat → Int32) (f14 : Nat → Int64) (f15 : Nat → Int64) (f16 : Nat → Int64) (f17 : Nat → Int64) (f18 : Nat → Int32) (f19 : Nat → Int64) (f20 : Nat → Int32) (h_v0_30 : 0 ≤ v0_30 ∧ v0_30 ≤ 14) (h_v0_38 : 0 ≤ v0_38 ∧ v0_38 ≤ 1) (h_f1 : (∀ i : Nat, 0 ≤ f1 i ∧ f1 i ≤ 14)) (h_f3 : (∀ i : Nat, 0 ≤ f3 i ∧ f3 i ≤ 13)) (h_f4 : (∀ i : Nat, (-1) ≤ f4 i ∧ f4 i ≤ 3)) (h_f5 : (∀ i : Nat, 0 ≤ f5 i ∧ f5 i ≤ 13)) (h_f6 : (∀ i : Nat, 0 ≤ f6 i ∧ f6 i ≤ 4)) (h_f7 : (∀ i : Nat, 0 ≤ f7 i ∧ f7 i ≤ 3)) (h_f8 : (∀ i : Nat, 0 ≤ f8 i ∧ f8 i ≤ 3)) (h_f10 : (∀ i : Nat, (-1) ≤ f10 i ∧ f10 i ≤ 13)) (h_f11 : (∀ i : Nat, (-1) ≤ f11 i ∧ f11 i ≤ 13)) (hx_0 : f1 (0 : Int32).toNatClampNeg ≤ 0 ∨ 1 ≤ f6 (0 : Int32).toNatClampNeg ∧ (∀ x : Int32, 0 ≤ x → x < f6 (0 : Int32).toNatClampNeg → 1 ≤ f18 x.toNatClampNeg) ∧ (∀ i : Nat, 1 ≤ f18 (f7 i).toNatClampNeg) ∧ (∀ i : Nat, 1 ≤ f18 (f8 i).toNatClampNeg)) : zw (fn_X12_least p1 p2 v0_30 v0_33 w0_34 v0_38 v0_41 v0_42 f1 f2 f3 f4 f5 f6 f7 f8 f9 f10 f11 f12 f13 f14 f15 f16 f17 f18 f19 f20) (fun r => 0 ≤ r.2.1 ∧ r.2.1 ≤ 14 ∧ (∀ i : Nat, 0 ≤ r.2.2.2.2.2.1 i ∧ r.2.2.2.2.2.1 i ≤ 13) ∧ (∀ i : Nat, 0 ≤ r.2.2.2.2.2.2.1 i ∧ r.2.2.2.2.2.2.1 i ≤ 3) ∧ (∀ i : Nat, r.2.2.2.2.2.2.1 i = f7 i ∨ r.2.2.2.2.2.2.1 i = f8 i ∨ 0 ≤ r.2.2.2.2.2.2.1 i ∧ r.2.2.2.2.2.2.1 i < f6 (0 : Int32).toNatClampNeg)) := by
  unfold fn_X12_least
  refine zw_zb0 (sf_X12_isAnswer p1 f1 f2 (by first | with_reducible assumption | exact ⟨by with_reducible assumption, by with_reducible assumption⟩ | first | lia | grind [zu_at, zu_atL, zvn])) (fun o_1 ho_1 => ?_)
  obtain ⟨ho_1_0, ho_1_1, ho_1_2, ho_1_3, ho_1_4, ho_1_5⟩ := ho_1
  refine zw_if (fun c1 => ?_) (fun c1 => ?_)
  · refine zw_some ?_
    first | exact True.intro | ((try dsimp only); (repeat' apply And.intro) <;> first | with_reducible assumption | first | lia | grind [zu_at, zu_atL, zvn])
  refine zw_zb0 (sf_X12_canSearch v0_38 f1 f3 f4 f5 (by first | with_reducible assumption | exact ⟨by with_reducible assumption, by with_reducible assumption⟩ | first | lia | grind [zu_at, zu_atL, zvn]) (by first | with_reducible assumption | exact ⟨by with_reducible assumption, by with_reducible assumption⟩ | first | lia | grind [zu_at, zu_atL, zvn]) (by first | with_reducible assumption | exact ⟨by with_reducible assumption, by with_reducible assumption⟩ | first | lia | grind [zu_at, zu_atL, zvn]) (by first | with_reducible assumption | exact ⟨by with_reducible assumption, by with_reducible assumption⟩ | first | lia | grind [zu_at, zu_atL, zvn]) (by first | with_reducible assumption | exact ⟨by with_reducible assumption, by with_reducible assumption⟩ | first | lia | grind [zu_at, zu_atL, zvn])) (fun o_6 ho_6 => ?_)
  obtain ⟨o_6_0, o_6_1, o_6_2, o_6_3⟩ := o_6
  try dsimp only at ho_6
  obtain ⟨ho_6_0, ho_6_1, ho_6_2, ho_6_3, ho_6_4, ho_6_5, ho_6_6, ho_6_7, ho_6_8, ho_6_9, ho_6_10, ho_6_11, ho_6_12⟩ := ho_6
  refine zw_if (fun c2 => ?_) (fun c2 => ?_)
  · refine zw_some ?_
    first | exact True.intro | ((try dsimp only); (repeat' apply And.intro) <;> first | with_reducible assumption | first | lia | grind [zu_at, zu_atL, zvn])
  refine zw_zb0 (sf_X12_allChoices o_6_1 f6 (by first | with_reducible assumption | exact ⟨by with_reducible assumption, by with_reducible assumption⟩ | first | lia | grind [zu_at, zu_atL, zvn]) (by first | with_reducible assumption | exact ⟨by with_reducible assumption, by with_reducible assumption⟩ | first | lia | grind [zu_at, zu_atL, zvn])) (fun o_11 ho_11 => ?_)
  obtain ⟨ho_11_0, ho_11_1⟩ := ho_11
  refine zw_zl32 (fun s_15 => (∀ i : Nat, 0 ≤ s_15.2.2.2.2.2.2.1 i ∧ s_15.2.2.2.2.2.2.1 i ≤ 3) ∧ 0 ≤ s_15.2.1 ∧ s_15.2.1 ≤ 1024 ∧ s_15.2.1 ≤ o_11 ∧ (∀ i : Nat, s_15.2.2.2.2.2.2.1 i = f7 i ∨ s_15.2.2.2.2.2.2.1 i = f8 i ∨ 0 ≤ s_15.2.2.2.2.2.2.1 i ∧ s_15.2.2.2.2.2.2.1 i < f6 (0 : Int32).toNatClampNeg)) (fun s_15 => 1024 - s_15.2.1) (by (try dsimp only); (repeat' apply And.intro) <;> first | with_reducible assumption | first | lia | grind [zu_at, zu_atL, zvn]) (by (try dsimp only); first | lia | grind [zu_at, zu_atL, zvn]) (fun s_15 back_15 Hback_15 hback_15 => ?_)
  obtain ⟨s_15_0, s_15_1, s_15_2, s_15_3, s_15_4, s_15_5, s_15_6, s_15_7⟩ := s_15
  try dsimp only at Hback_15 hback_15
  obtain ⟨Hback_15_0, Hback_15_1, Hback_15_2, Hback_15_3, Hback_15_4⟩ := Hback_15
  refine zw_if (fun c3 => ?_) (fun c3 => ?_)
  · refine zw_some ?_
    first | exact True.intro | ((try dsimp only); (repeat' apply And.intro) <;> first | with_reducible assumption | ((try clear hback_15); first | lia | grind [zu_at, zu_atL, zvn]))
  refine zw_zb0 (sf_X12_triesChoice s_15_1 o_6_1 f1 f7 s_15_6 o_6_3 f6 f3 (by first | with_reducible assumption | exact ⟨by with_reducible assumption, by with_reducible assumption⟩ | ((try clear hback_15); first | lia | grind [zu_at, zu_atL, zvn])) (by first | with_reducible assumption | exact ⟨by with_reducible assumption, by with_reducible assumption⟩ | ((try clear hback_15); first | lia | grind [zu_at, zu_atL, zvn])) (by first | with_reducible assumption | exact ⟨by with_reducible assumption, by with_reducible assumption⟩ | ((try clear hback_15); first | lia | grind [zu_at, zu_atL, zvn])) (by first | with_reducible assumption | exact ⟨by with_reducible assumption, by with_reducible assumption⟩ | ((try clear hback_15); first | lia | grind [zu_at, zu_atL, zvn])) (by first | with_reducible assumption | exact ⟨by with_reducible assumption, by with_reducible assumption⟩ | ((try clear hback_15); first | lia | grind [zu_at, zu_atL, zvn])) (by first | with_reducible assumption | exact ⟨by with_reducible assumption, by with_reducible assumption⟩ | ((try clear hback_15); first | lia | grind [zu_at, zu_atL, zvn])) (by first | with_reducible assumption | exact ⟨by with_reducible assumption, by with_reducible assumption⟩ | ((try clear hback_15); first | lia | grind [zu_at, zu_atL, zvn])) (by first | with_reducible assumption | exact ⟨by with_reducible assumption, by with_reducible assumption⟩ | ((try clear hback_15); first | lia | grind [zu_at, zu_atL, zvn])) (by first | with_reducible assumption | exact ⟨by with_reducible assumption, by with_reducible assumption⟩ | ((try clear hback_15); first | lia | grind [zu_at, zu_atL, zvn]))) (fun o_17 ho_17 => ?_)
  obtain ⟨ho_17_0, ho_17_1⟩ := ho_17
  refine zw_zb0 (sf_X12_costTried f9 f1 f10 o_17 f11 f12 (by first | with_reducible assumption | exact ⟨by with_reducible assumption, by with_reducible assumption⟩ | ((try clear hback_15); first | lia | grind [zu_at, zu_atL, zvn])) (by first | with_reducible assumption | exact ⟨by with_reducible assumption, by with_reducible assumption⟩ | ((try clear hback_15); first | lia | grind [zu_at, zu_atL, zvn])) (by first | with_reducible assumption | exact ⟨by with_reducible assumption, by with_reducible assumption⟩ | ((try clear hback_15); first | lia | grind [zu_at, zu_atL, zvn])) (by first | with_reducible assumption | exact ⟨by with_reducible assumption, by with_reducible assumption⟩ | ((try clear hback_15); first | lia | grind [zu_at, zu_atL, zvn]))) (fun o_21 ho_21 => ?_)
  refine zw_if (fun c4 => ?_) (fun c4 => ?_)
  · exact hback_15 _ (by (try dsimp only); (repeat' apply And.intro) <;> first | with_reducible assumption | ((try clear hback_15); first | lia | grind [zu_at, zu_atL, zvn])) (by (try dsimp only); ((try clear hback_15); first | lia | grind [zu_at, zu_atL, zvn])) (by (try dsimp only); ((try clear hback_15); first | lia | grind [zu_at, zu_atL, zvn]))
  refine zw_zb0 (sf_X12_passes o_6_2 w0_34 f1 f13 f10 f11 s_15_4 f15 f16 s_15_5 o_17 f18 s_15_7 f20 f2 (by first | with_reducible assumption | exact ⟨by with_reducible assumption, by with_reducible assumption⟩ | ((try clear hback_15); first | lia | grind [zu_at, zu_atL, zvn])) (by first | with_reducible assumption | exact ⟨by with_reducible assumption, by with_reducible assumption⟩ | ((try clear hback_15); first | lia | grind [zu_at, zu_atL, zvn])) (by first | with_reducible assumption | exact ⟨by with_reducible assumption, by with_reducible assumption⟩ | ((try clear hback_15); first | lia | grind [zu_at, zu_atL, zvn])) (by first | with_reducible assumption | exact ⟨by with_reducible assumption, by with_reducible assumption⟩ | ((try clear hback_15); first | lia | grind [zu_at, zu_atL, zvn])) (by first | with_reducible assumption | exact ⟨by with_reducible assumption, by with_reducible assumption⟩ | ((try clear hback_15); first | lia | grind [zu_at, zu_atL, zvn]))) (fun o_26 ho_26 => ?_)
  obtain ⟨o_26_0, o_26_1, o_26_2, o_26_3, o_26_4, o_26_5⟩ := o_26
  try dsimp only at ho_26
  obtain ⟨ho_26_0, ho_26_1, ho_26_2, ho_26_3, ho_26_4, ho_26_5, ho_26_6, ho_26_7, ho_26_8, ho_26_9, ho_26_10, ho_26_11, ho_26_12⟩ := ho_26
  refine zw_if (fun c5 => ?_) (fun c5 => ?_)
  · exact hback_15 _ (by (try dsimp only); (repeat' apply And.intro) <;> first | with_reducible assumption | ((try clear hback_15); first | lia | grind [zu_at, zu_atL, zvn])) (by (try dsimp only); ((try clear hback_15); first | lia | grind [zu_at, zu_atL, zvn])) (by (try dsimp only); ((try clear hback_15); first | lia | grind [zu_at, zu_atL, zvn]))
  refine zw_ifc (lg_cmp_eq _ _) (fun c6 => ?_) (fun c6 => ?_)
  · refine zw_zg32 14 (by decide) (by (try dsimp only); ((try clear hback_15); first | lia | grind [zu_at, zu_atL, zvn])) ?_
    exact hback_15 _ (by (try dsimp only); (repeat' apply And.intro) <;> first | with_reducible assumption | ((try clear hback_15); first | lia | grind [zu_at, zu_atL, zvn])) (by (try dsimp only); ((try clear hback_15); first | lia | grind [zu_at, zu_atL, zvn])) (by (try dsimp only); ((try clear hback_15); first | lia | grind [zu_at, zu_atL, zvn]))
  refine zw_zg32 14 (by decide) (by (try dsimp only); ((try clear hback_15); first | lia | grind [zu_at, zu_atL, zvn])) ?_
  refine zw_zb0 (sf_X12_lesser s_15_0 (o_26_5 p1.toNatClampNeg)) (fun o_33 ho_33 => ?_)
  exact hback_15 _ (by (try dsimp only); (repeat' apply And.intro) <;> first | with_reducible assumption | ((try clear hback_15); first | lia | grind [zu_at, zu_atL, zvn])) (by (try dsimp only); ((try clear hback_15); first | lia | grind [zu_at, zu_atL, zvn])) (by (try dsimp only); ((try clear hback_15); first | lia | grind [zu_at, zu_atL, zvn]))
set_option maxHeartbeats 4000000 in
set_option maxRecDepth 100000 in
theorem sf_X12_byteOf (j0 : Int64) (p1 : Int32) : zw (fn_X12_byteOf j0 p1) (fun r => True) := by
  unfold fn_X12_byteOf
  refine zw_some ?_
  first | exact True.intro | ((try dsimp only); (repeat' apply And.intro) <;> first | with_reducible assumption | first | lia | grind [zu_at, zu_atL, zvn])
set_option maxHeartbeats 4000000 in
set_option maxRecDepth 100000 in
theorem sf_X12_certificate (p1 : Int32) (w0_34 : Int64) (v0_38 : Int32) (v0_41 : Int32) (v0_42 : Int32) (f1 : Nat → Int32) (f2 : Nat → Int32) (f3 : Nat → Int32) (f4 : Nat → Int32) (f5 : Nat → Int32) (f6 : Nat → Int32) (f7 : Nat → Int64) (f8 : Nat → Int64) (f9 : Nat → Int64) (f10 : Nat → Int64) (f11 : Nat → Int32) (f12 : Nat → Int64) (f13 : Nat → Int32) (f14 : Nat → Int32) (h_v0_38 : 0 ≤ v0_38 ∧ v0_38 ≤ 1) (h_f1 : (∀ i : Nat, 0 ≤ f1 i ∧ f1 i ≤ 14)) (h_f2 : (∀ i : Nat, 0 ≤ f2 i ∧ f2 i ≤ 3)) (h_f3 : (∀ i : Nat, 0 ≤ f3 i ∧ f3 i ≤ 3)) (h_f5 : (∀ i : Nat, (-1) ≤ f5 i ∧ f5 i ≤ 13)) (h_f6 : (∀ i : Nat, (-1) ≤ f6 i ∧ f6 i ≤ 13)) (hx_0 : f1 (0 : Int32).toNatClampNeg ≤ 0 ∨ (∀ i : Nat, 1 ≤ f11 (f2 i).toNatClampNeg) ∧ (∀ i : Nat, 1 ≤ f11 (f3 i).toNatClampNeg)) : zw (fn_X12_certificate p1 w0_34 v0_38 v0_41 v0_42 f1 f2 f3 f4 f5 f6 f7 f8 f9 f10 f11 f12 f13 f14) (fun r => (∀ i : Nat, 0 ≤ r.2.2.2.2.1 i ∧ r.2.2.2.2.1 i ≤ 3) ∧ (-1) ≤ r.2.1 ∧ r.2.1 ≤ (-1) ∧ (∀ i : Nat, r.2.2.2.2.1 i = f2 i ∨ r.2.2.2.2.1 i = f3 i)) := by
  unfold fn_X12_certificate
  refine zw_zb0 (sf_X12_handPasses w0_34 v0_38 v0_41 v0_42 f1 f2 f3 f4 f5 f6 f7 f8 f9 f10 f11 f12 f13 f14 (by first | with_reducible assumption | exact ⟨by with_reducible assumption, by with_reducible assumption⟩ | first | lia | grind [zu_at, zu_atL, zvn]) (by first | with_reducible assumption | exact ⟨by with_reducible assumption, by with_reducible assumption⟩ | first | lia | grind [zu_at, zu_atL, zvn]) (by first | with_reducible assumption | exact ⟨by with_reducible assumption, by with_reducible assumption⟩ | first | lia | grind [zu_at, zu_atL, zvn]) (by first | with_reducible assumption | exact ⟨by with_reducible assumption, by with_reducible assumption⟩ | first | lia | grind [zu_at, zu_atL, zvn]) (by first | with_reducible assumption | exact ⟨by with_reducible assumption, by with_reducible assumption⟩ | first | lia | grind [zu_at, zu_atL, zvn]) (by first | with_reducible assumption | exact ⟨by with_reducible assumption, by with_reducible assumption⟩ | first | lia | grind [zu_at, zu_atL, zvn]) (by first | with_reducible assumption | exact ⟨by with_reducible assumption, by with_reducible assumption⟩ | first | lia | grind [zu_at, zu_atL, zvn])) (fun o_1 ho_1 => ?_)
  obtain ⟨o_1_0, o_1_1, o_1_2, o_1_3, o_1_4, o_1_5, o_1_6, o_1_7⟩ := o_1
  try dsimp only at ho_1
  obtain ⟨ho_1_0, ho_1_1, ho_1_2, ho_1_3, ho_1_4, ho_1_5, ho_1_6, ho_1_7, ho_1_8, ho_1_9, ho_1_10⟩ := ho_1
  refine zw_if (fun c1 => ?_) (fun c1 => ?_)
  · refine zw_some ?_
    first | exact True.intro | ((try dsimp only); (repeat' apply And.intro) <;> first | with_reducible assumption | first | lia | grind [zu_at, zu_atL, zvn])
  refine zw_zb0 (sf_X12_isIn p1.toInt64 (0 : Int64) ((25 * (f1 (0 : Int32).toNatClampNeg)).toInt64 - (1 : Int64))) (fun o_6 ho_6 => ?_)
  obtain ⟨ho_6_0, ho_6_1, ho_6_2, ho_6_3, ho_6_4⟩ := ho_6
  refine zw_if (fun c2 => ?_) (fun c2 => ?_)
  · refine zw_some ?_
    first | exact True.intro | ((try dsimp only); (repeat' apply And.intro) <;> first | with_reducible assumption | first | lia | grind [zu_at, zu_atL, zvn])
  have hz0 := h_f1 (0 : Int32).toNatClampNeg
  have hz1 := z64_ge0 p1
  have hz2 := z64_ltm p1 (25 * (f1 (0 : Int32).toNatClampNeg)) (by lia)
  have hz3 : 0 ≤ p1 ∧ p1 < 25 * (f1 (0 : Int32).toNatClampNeg) := by grind
  have hdv := zdiv25 p1 hz3.1 (by lia)
  refine zw_if (fun c3 => ?_) (fun c3 => ?_)
  · refine zw_zg32 14 (by decide) (by (try dsimp only); first | lia | grind [zu_at, zu_atL, zvn]) ?_
    refine zw_some ?_
    first | exact True.intro | ((try dsimp only); (repeat' apply And.intro) <;> first | with_reducible assumption | first | lia | grind [zu_at, zu_atL, zvn])
  refine zw_if (fun c4 => ?_) (fun c4 => ?_)
  · refine zw_if (fun c5 => ?_) (fun c5 => ?_)
    · refine zw_zg32 14 (by decide) (by (try dsimp only); first | lia | grind [zu_at, zu_atL, zvn]) ?_
      refine zw_zb0 (sf_X12_byteOf (o_1_7 (p1 / 25).toNatClampNeg) ((p1 - ((p1 / 25) * 25)) - 17)) (fun o_15 ho_15 => ?_)
      refine zw_some ?_
      first | exact True.intro | ((try dsimp only); (repeat' apply And.intro) <;> first | with_reducible assumption | first | lia | grind [zu_at, zu_atL, zvn])
    refine zw_zg32 14 (by decide) (by (try dsimp only); first | lia | grind [zu_at, zu_atL, zvn]) ?_
    refine zw_zb0 (sf_X12_byteOf (o_1_6 (p1 / 25).toNatClampNeg) ((p1 - ((p1 / 25) * 25)) - 9)) (fun o_20 ho_20 => ?_)
    refine zw_some ?_
    first | exact True.intro | ((try dsimp only); (repeat' apply And.intro) <;> first | with_reducible assumption | first | lia | grind [zu_at, zu_atL, zvn])
  refine zw_zg32 14 (by decide) (by (try dsimp only); first | lia | grind [zu_at, zu_atL, zvn]) ?_
  refine zw_zb0 (sf_X12_byteOf (o_1_5 (p1 / 25).toNatClampNeg) ((p1 - ((p1 / 25) * 25)) - 1)) (fun o_25 ho_25 => ?_)
  refine zw_some ?_
  first | exact True.intro | ((try dsimp only); (repeat' apply And.intro) <;> first | with_reducible assumption | first | lia | grind [zu_at, zu_atL, zvn])
set_option maxHeartbeats 4000000 in
set_option maxRecDepth 100000 in
theorem sf_X12_readsLong (p1 : Int32) (f1 : Nat → Int32) (h_p1 : 0 ≤ p1 ∧ p1 ≤ 1192) (h_f1 : (∀ i : Nat, 0 ≤ f1 i ∧ f1 i ≤ 255)) : zw (fn_X12_readsLong p1 f1) (fun r => True) := by
  unfold fn_X12_readsLong
  refine zw_zl32 (fun s_1 => 0 ≤ s_1.2 ∧ s_1.2 ≤ 8) (fun s_1 => 8 - s_1.2) (by (try dsimp only); (repeat' apply And.intro) <;> first | with_reducible assumption | first | lia | grind [zu_at, zu_atL, zvn]) (by (try dsimp only); first | lia | grind [zu_at, zu_atL, zvn]) (fun s_1 back_1 Hback_1 hback_1 => ?_)
  obtain ⟨s_1_0, s_1_1⟩ := s_1
  try dsimp only at Hback_1 hback_1
  obtain ⟨Hback_1_0, Hback_1_1⟩ := Hback_1
  refine zw_if (fun c1 => ?_) (fun c1 => ?_)
  · refine zw_ifc (lg_cmp_le _ _) (fun c2 => ?_) (fun c2 => ?_)
    · refine zw_ifc (lg_cmp_ge _ _) (fun c3 => ?_) (fun c3 => ?_)
      · refine zw_some ?_
        first | exact True.intro | ((try dsimp only); (repeat' apply And.intro) <;> first | with_reducible assumption | ((try clear hback_1); first | lia | grind [zu_at, zu_atL, zvn]))
      refine zw_some ?_
      first | exact True.intro | ((try dsimp only); (repeat' apply And.intro) <;> first | with_reducible assumption | ((try clear hback_1); first | lia | grind [zu_at, zu_atL, zvn]))
    refine zw_some ?_
    first | exact True.intro | ((try dsimp only); (repeat' apply And.intro) <;> first | with_reducible assumption | ((try clear hback_1); first | lia | grind [zu_at, zu_atL, zvn]))
  refine zw_zg32 1200 (by decide) (by (try dsimp only); ((try clear hback_1); first | lia | grind [zu_at, zu_atL, zvn])) ?_
  refine zw_zn (fun x_6 ex_6 => ?_)
  exact hback_1 _ (by (try dsimp only); (repeat' apply And.intro) <;> first | with_reducible assumption | ((try clear hback_1); first | lia | grind [zu_at, zu_atL, zvn])) (by (try dsimp only); ((try clear hback_1); first | lia | grind [zu_at, zu_atL, zvn])) (by (try dsimp only); ((try clear hback_1); first | lia | grind [zu_at, zu_atL, zvn]))
set_option maxHeartbeats 4000000 in
set_option maxRecDepth 100000 in
theorem sf_X12_isFormatSaid (p1 : Int32) (f1 : Nat → Int32) (f2 : Nat → Int32) (f3 : Nat → Int32) (f4 : Nat → Int32) (f5 : Nat → Int32) (h_p1 : 0 ≤ p1 ∧ p1 ≤ 13) (h_f2 : (∀ i : Nat, 0 ≤ f2 i ∧ f2 i ≤ 4)) (h_f3 : (∀ i : Nat, 0 ≤ f3 i ∧ f3 i ≤ 14)) (h_f4 : (∀ i : Nat, 0 ≤ f4 i ∧ f4 i ≤ 13)) (h_f5 : (∀ i : Nat, (-1) ≤ f5 i ∧ f5 i ≤ 3)) : zw (fn_X12_isFormatSaid p1 f1 f2 f3 f4 f5) (fun r => 0 ≤ r ∧ r ≤ 1 ∧ r ≤ (f2 (0 : Int32).toNatClampNeg) ∧ (f2 (0 : Int32).toNatClampNeg) ≤ r + 4 ∧ (r = 0 → r ≤ p1) ∧ (¬ r = 0 → 1 ≤ r ∧ (f1 p1.toNatClampNeg) ≤ 3 ∧ 0 ≤ (f1 p1.toNatClampNeg) ∧ (f3 (0 : Int32).toNatClampNeg) ≤ 14 ∧ 0 ≤ (f3 (0 : Int32).toNatClampNeg) ∧ (f1 p1.toNatClampNeg) < (f2 (0 : Int32).toNatClampNeg)) ∧ (r = 1 → (f1 p1.toNatClampNeg) ≤ 3 ∧ 0 ≤ (f1 p1.toNatClampNeg) ∧ (f3 (0 : Int32).toNatClampNeg) ≤ 14 ∧ 1 ≤ (f2 (0 : Int32).toNatClampNeg) ∧ 0 ≤ (f3 (0 : Int32).toNatClampNeg) ∧ (f1 p1.toNatClampNeg) < (f2 (0 : Int32).toNatClampNeg) ∧ (f1 p1.toNatClampNeg) ≤ r + 2 ∧ (f2 (0 : Int32).toNatClampNeg) ≤ r + 3) ∧ (¬ r = 1 → r ≤ 0)) := by
  unfold fn_X12_isFormatSaid
  refine zw_zg32 14 (by decide) (by (try dsimp only); first | lia | grind [zu_at, zu_atL, zvn]) ?_
  refine zw_zb0 (sf_X12_isFormat (f1 p1.toNatClampNeg) f2 (by first | with_reducible assumption | exact ⟨by with_reducible assumption, by with_reducible assumption⟩ | first | lia | grind [zu_at, zu_atL, zvn])) (fun o_2 ho_2 => ?_)
  obtain ⟨ho_2_0, ho_2_1, ho_2_2, ho_2_3, ho_2_4, ho_2_5, ho_2_6⟩ := ho_2
  refine zw_if (fun c1 => ?_) (fun c1 => ?_)
  · refine zw_some ?_
    first | exact True.intro | ((try dsimp only); (repeat' apply And.intro) <;> first | with_reducible assumption | first | lia | grind [zu_at, zu_atL, zvn])
  refine zw_zl32 (fun s_7 => 0 ≤ s_7 ∧ s_7 ≤ 14) (fun s_7 => 14 - s_7) (by (try dsimp only); (repeat' apply And.intro) <;> first | with_reducible assumption | first | lia | grind [zu_at, zu_atL, zvn]) (by (try dsimp only); first | lia | grind [zu_at, zu_atL, zvn]) (fun s_7 back_7 Hback_7 hback_7 => ?_)
  obtain ⟨Hback_7_0, Hback_7_1⟩ := Hback_7
  refine zw_if (fun c2 => ?_) (fun c2 => ?_)
  · refine zw_some ?_
    first | exact True.intro | ((try dsimp only); (repeat' apply And.intro) <;> first | with_reducible assumption | ((try clear hback_7); first | lia | grind [zu_at, zu_atL, zvn]))
  refine zw_zg32 28 (by decide) (by (try dsimp only); ((try clear hback_7); first | lia | grind [zu_at, zu_atL, zvn])) ?_
  refine zw_zg32 28 (by decide) (by (try dsimp only); ((try clear hback_7); first | lia | grind [zu_at, zu_atL, zvn])) ?_
  refine zw_if (fun c3 => ?_) (fun c3 => ?_)
  · refine zw_zj (fun _ => True) (fun s_12 Hj_12 => ?_) (fun j_12 hj_12 => ?_)
    · refine zw_zg32 28 (by decide) (by (try dsimp only); ((try clear hback_7); (try clear hj_12); first | lia | grind [zu_at, zu_atL, zvn])) ?_
      refine zw_if (fun c4 => ?_) (fun c4 => ?_)
      · exact hback_7 _ (by (try dsimp only); (repeat' apply And.intro) <;> first | with_reducible assumption | ((try clear hback_7); (try clear hj_12); first | lia | grind [zu_at, zu_atL, zvn])) (by (try dsimp only); ((try clear hback_7); (try clear hj_12); first | lia | grind [zu_at, zu_atL, zvn])) (by (try dsimp only); ((try clear hback_7); (try clear hj_12); first | lia | grind [zu_at, zu_atL, zvn]))
      refine zw_zg32 14 (by decide) (by (try dsimp only); ((try clear hback_7); (try clear hj_12); first | lia | grind [zu_at, zu_atL, zvn])) ?_
      refine zw_if (fun c5 => ?_) (fun c5 => ?_)
      · exact hback_7 _ (by (try dsimp only); (repeat' apply And.intro) <;> first | with_reducible assumption | ((try clear hback_7); (try clear hj_12); first | lia | grind [zu_at, zu_atL, zvn])) (by (try dsimp only); ((try clear hback_7); (try clear hj_12); first | lia | grind [zu_at, zu_atL, zvn])) (by (try dsimp only); ((try clear hback_7); (try clear hj_12); first | lia | grind [zu_at, zu_atL, zvn]))
      refine zw_some ?_
      first | exact True.intro | ((try dsimp only); (repeat' apply And.intro) <;> first | with_reducible assumption | ((try clear hback_7); (try clear hj_12); first | lia | grind [zu_at, zu_atL, zvn]))
    refine zw_if (fun c6 => ?_) (fun c6 => ?_)
    · exact hj_12 _ (by first | exact True.intro | ((try dsimp only); (repeat' apply And.intro) <;> first | with_reducible assumption | ((try clear hback_7); (try clear hj_12); first | lia | grind [zu_at, zu_atL, zvn])))
    refine zw_zg32 14 (by decide) (by (try dsimp only); ((try clear hback_7); (try clear hj_12); first | lia | grind [zu_at, zu_atL, zvn])) ?_
    refine zw_zg32 14 (by decide) (by (try dsimp only); ((try clear hback_7); (try clear hj_12); first | lia | grind [zu_at, zu_atL, zvn])) ?_
    refine zw_if (fun c7 => ?_) (fun c7 => ?_)
    · exact hj_12 _ (by first | exact True.intro | ((try dsimp only); (repeat' apply And.intro) <;> first | with_reducible assumption | ((try clear hback_7); (try clear hj_12); first | lia | grind [zu_at, zu_atL, zvn])))
    refine zw_some ?_
    first | exact True.intro | ((try dsimp only); (repeat' apply And.intro) <;> first | with_reducible assumption | ((try clear hback_7); (try clear hj_12); first | lia | grind [zu_at, zu_atL, zvn]))
  exact hback_7 _ (by (try dsimp only); (repeat' apply And.intro) <;> first | with_reducible assumption | ((try clear hback_7); (try clear hj_12); first | lia | grind [zu_at, zu_atL, zvn])) (by (try dsimp only); ((try clear hback_7); (try clear hj_12); first | lia | grind [zu_at, zu_atL, zvn])) (by (try dsimp only); ((try clear hback_7); (try clear hj_12); first | lia | grind [zu_at, zu_atL, zvn]))
set_option maxHeartbeats 4000000 in
set_option maxRecDepth 100000 in
theorem sf_X12_breaks (p1 : Int32) (v0_33 : Int32) (w0_34 : Int64) (f1 : Nat → Int32) (f2 : Nat → Int32) (f3 : Nat → Int32) (f4 : Nat → Int32) (f5 : Nat → Int32) (f6 : Nat → Int32) (f7 : Nat → Int32) (f8 : Nat → Int32) (f9 : Nat → Int32) (f10 : Nat → Int64) (f11 : Nat → Int64) (f12 : Nat → Int64) (f13 : Nat → Int64) (f14 : Nat → Int32) (f15 : Nat → Int64) (f16 : Nat → Int64) (f17 : Nat → Int64) (f18 : Nat → Int64) (f19 : Nat → Int32) (f20 : Nat → Int32) (h_p1 : 0 ≤ p1 ∧ p1 ≤ 13) (h_f2 : (∀ i : Nat, 0 ≤ f2 i ∧ f2 i ≤ 4)) (h_f3 : (∀ i : Nat, 0 ≤ f3 i ∧ f3 i ≤ 14)) (h_f4 : (∀ i : Nat, 0 ≤ f4 i ∧ f4 i ≤ 13)) (h_f5 : (∀ i : Nat, (-1) ≤ f5 i ∧ f5 i ≤ 3)) (h_f6 : (∀ i : Nat, 0 ≤ f6 i ∧ f6 i ≤ 3)) (h_f8 : (∀ i : Nat, (-1) ≤ f8 i ∧ f8 i ≤ 13)) (h_f9 : (∀ i : Nat, (-1) ≤ f9 i ∧ f9 i ≤ 13)) (hr_0 : 1 ≤ (f2 (0 : Int32).toNatClampNeg)) (hx_0 : (∀ x : Int32, 0 ≤ x → x < f2 (0 : Int32).toNatClampNeg → 1 ≤ f14 x.toNatClampNeg)) (hx_1 : (∀ i : Nat, 1 ≤ f14 (f6 i).toNatClampNeg)) : zw (fn_X12_breaks p1 v0_33 w0_34 f1 f2 f3 f4 f5 f6 f7 f8 f9 f10 f11 f12 f13 f14 f15 f16 f17 f18 f19 f20) (fun r => (∀ i : Nat, 0 ≤ r.2.1 i ∧ r.2.1 i ≤ 3) ∧ 0 ≤ r.1 ∧ r.1 ≤ 6 ∧ (∀ i : Nat, r.2.1 i = f6 i ∨ 0 ≤ r.2.1 i ∧ r.2.1 i < f2 (0 : Int32).toNatClampNeg)) := by
  unfold fn_X12_breaks
  refine zw_zb0 (sf_X12_isFormatSaid p1 f1 f2 f3 f4 f5 (by first | with_reducible assumption | exact ⟨by with_reducible assumption, by with_reducible assumption⟩ | first | lia | grind [zu_at, zu_atL, zvn]) (by first | with_reducible assumption | exact ⟨by with_reducible assumption, by with_reducible assumption⟩ | first | lia | grind [zu_at, zu_atL, zvn]) (by first | with_reducible assumption | exact ⟨by with_reducible assumption, by with_reducible assumption⟩ | first | lia | grind [zu_at, zu_atL, zvn]) (by first | with_reducible assumption | exact ⟨by with_reducible assumption, by with_reducible assumption⟩ | first | lia | grind [zu_at, zu_atL, zvn]) (by first | with_reducible assumption | exact ⟨by with_reducible assumption, by with_reducible assumption⟩ | first | lia | grind [zu_at, zu_atL, zvn])) (fun o_1 ho_1 => ?_)
  obtain ⟨ho_1_0, ho_1_1, ho_1_2, ho_1_3, ho_1_4, ho_1_5, ho_1_6, ho_1_7⟩ := ho_1
  refine zw_if (fun c1 => ?_) (fun c1 => ?_)
  · refine zw_some ?_
    first | exact True.intro | ((try dsimp only); (repeat' apply And.intro) <;> first | with_reducible assumption | first | lia | grind [zu_at, zu_atL, zvn])
  refine zw_zg32 14 (by decide) (by (try dsimp only); first | lia | grind [zu_at, zu_atL, zvn]) ?_
  refine zw_zb0 (sf_X12_laysRange p1 v0_33 w0_34 f7 f8 f9 f10 f11 f12 f13 (by first | with_reducible assumption | exact ⟨by with_reducible assumption, by with_reducible assumption⟩ | first | lia | grind [zu_at, zu_atL, zvn]) (by first | with_reducible assumption | exact ⟨by with_reducible assumption, by with_reducible assumption⟩ | first | lia | grind [zu_at, zu_atL, zvn]) (by first | with_reducible assumption | exact ⟨by with_reducible assumption, by with_reducible assumption⟩ | first | lia | grind [zu_at, zu_atL, zvn])) (fun o_7 ho_7 => ?_)
  obtain ⟨o_7_0, o_7_1⟩ := o_7
  try dsimp only at ho_7
  refine zw_zb0 (sf_X12_laysError p1 (upd f6 p1.toNatClampNeg (f1 p1.toNatClampNeg)) f14 f7 f8 f9 f15 f11 f12 o_7_0 o_7_1 (by first | with_reducible assumption | exact ⟨by with_reducible assumption, by with_reducible assumption⟩ | first | lia | grind [zu_at, zu_atL, zvn]) (by first | with_reducible assumption | exact ⟨by with_reducible assumption, by with_reducible assumption⟩ | first | lia | grind [zu_at, zu_atL, zvn]) (by first | with_reducible assumption | exact ⟨by with_reducible assumption, by with_reducible assumption⟩ | first | lia | grind [zu_at, zu_atL, zvn]) (by first | with_reducible assumption | exact ⟨by with_reducible assumption, by with_reducible assumption⟩ | first | lia | grind [zu_at, zu_atL, zvn]) (by first | with_reducible assumption | exact ⟨by with_reducible assumption, by with_reducible assumption⟩ | first | lia | grind [zu_at, zu_atL, zvn])) (fun o_11 ho_11 => ?_)
  refine zw_ifc (lg_cmp_le _ _) (fun c2 => ?_) (fun c2 => ?_)
  · refine zw_ifc (lg_cmp_ge _ _) (fun c3 => ?_) (fun c3 => ?_)
    · refine zw_ifc (lg_cmp_lt _ _) (fun c4 => ?_) (fun c4 => ?_)
      · refine zw_some ?_
        first | exact True.intro | ((try dsimp only); (repeat' apply And.intro) <;> first | with_reducible assumption | first | lia | grind [zu_at, zu_atL, zvn])
      refine zw_ifc (lg_cmp_ge _ _) (fun c5 => ?_) (fun c5 => ?_)
      · refine zw_zb0 (sf_X12_mostOf p1 (vp_updL o_7_0 p1.toNatClampNeg (f16 p1.toNatClampNeg)) (vp_updL o_7_1 p1.toNatClampNeg (f17 p1.toNatClampNeg)) (by first | with_reducible assumption | exact ⟨by with_reducible assumption, by with_reducible assumption⟩ | first | lia | grind [zu_at, zu_atL, zvn])) (fun o_19 ho_19 => ?_)
        refine zw_zn (fun x_23 ex_23 => ?_)
        refine zw_zg32 8 (by decide) (by (try dsimp only); first | lia | grind [zu_at, zu_atL, zvn]) ?_
        refine zw_zn (fun x_25 ex_25 => ?_)
        refine zw_ifc (lg_cmp_le _ _) (fun c6 => ?_) (fun c6 => ?_)
        · refine zw_zg32 28 (by decide) (by (try dsimp only); first | lia | grind [zu_at, zu_atL, zvn]) ?_
          refine zw_if (fun c7 => ?_) (fun c7 => ?_)
          · refine zw_some ?_
            first | exact True.intro | ((try dsimp only); (repeat' apply And.intro) <;> first | with_reducible assumption | first | lia | grind [zu_at, zu_atL, zvn])
          refine zw_zn (fun x_29 ex_29 => ?_)
          refine zw_ifc (lg_cmp_le _ _) (fun c8 => ?_) (fun c8 => ?_)
          · refine zw_some ?_
            first | exact True.intro | ((try dsimp only); (repeat' apply And.intro) <;> first | with_reducible assumption | first | lia | grind [zu_at, zu_atL, zvn])
          refine zw_some ?_
          first | exact True.intro | ((try dsimp only); (repeat' apply And.intro) <;> first | with_reducible assumption | first | lia | grind [zu_at, zu_atL, zvn])
        refine zw_some ?_
        first | exact True.intro | ((try dsimp only); (repeat' apply And.intro) <;> first | with_reducible assumption | first | lia | grind [zu_at, zu_atL, zvn])
      refine zw_some ?_
      first | exact True.intro | ((try dsimp only); (repeat' apply And.intro) <;> first | with_reducible assumption | first | lia | grind [zu_at, zu_atL, zvn])
    refine zw_some ?_
    first | exact True.intro | ((try dsimp only); (repeat' apply And.intro) <;> first | with_reducible assumption | first | lia | grind [zu_at, zu_atL, zvn])
  refine zw_some ?_
  first | exact True.intro | ((try dsimp only); (repeat' apply And.intro) <;> first | with_reducible assumption | first | lia | grind [zu_at, zu_atL, zvn])
set_option maxHeartbeats 4000000 in
set_option maxRecDepth 100000 in
theorem sf_X12_check (v0_1 : Int32) (v0_33 : Int32) (w0_34 : Int64) (f1 : Nat → Int32) (f2 : Nat → Int32) (f3 : Nat → Int32) (f4 : Nat → Int32) (f5 : Nat → Int64) (f6 : Nat → Int64) (f7 : Nat → Int64) (f8 : Nat → Int32) (f9 : Nat → Int32) (f10 : Nat → Int32) (f11 : Nat → Int32) (f12 : Nat → Int32) (f13 : Nat → Int32) (f14 : Nat → Int32) (f15 : Nat → Int64) (f16 : Nat → Int64) (f17 : Nat → Int64) (f18 : Nat → Int64) (f19 : Nat → Int32) (f20 : Nat → Int64) (f21 : Nat → Int32) (f22 : Nat → Int32) (h_v0_1 : 0 ≤ v0_1 ∧ v0_1 ≤ 1200) (h_f1 : (∀ i : Nat, 0 ≤ f1 i ∧ f1 i ≤ 14)) (h_f3 : (∀ i : Nat, 0 ≤ f3 i ∧ f3 i ≤ 255)) (h_f8 : (∀ i : Nat, 0 ≤ f8 i ∧ f8 i ≤ 4)) (h_f9 : (∀ i : Nat, 0 ≤ f9 i ∧ f9 i ≤ 13)) (h_f10 : (∀ i : Nat, (-1) ≤ f10 i ∧ f10 i ≤ 3)) (h_f11 : (∀ i : Nat, 0 ≤ f11 i ∧ f11 i ≤ 3)) (h_f13 : (∀ i : Nat, (-1) ≤ f13 i ∧ f13 i ≤ 13)) (h_f14 : (∀ i : Nat, (-1) ≤ f14 i ∧ f14 i ≤ 13)) (hx_0 : f1 (0 : Int32).toNatClampNeg ≤ 0 ∨ 1 ≤ f8 (0 : Int32).toNatClampNeg ∧ (∀ x : Int32, 0 ≤ x → x < f8 (0 : Int32).toNatClampNeg → 1 ≤ f19 x.toNatClampNeg) ∧ (∀ i : Nat, 1 ≤ f19 (f11 i).toNatClampNeg)) : zw (fn_X12_check v0_1 v0_33 w0_34 f1 f2 f3 f4 f5 f6 f7 f8 f9 f10 f11 f12 f13 f14 f15 f16 f17 f18 f19 f20 f21 f22) (fun r => 0 ≤ r.1 ∧ r.1 ≤ 1 ∧ 0 ≤ r.2.1 ∧ r.2.1 ≤ 1200 ∧ (∀ i : Nat, 0 ≤ r.2.2.2.2.2.2.2.2.2.2.1 i ∧ r.2.2.2.2.2.2.2.2.2.2.1 i ≤ 3) ∧ (-2) ≤ r.2.2.2.1 ∧ (-1) ≤ r.2.2.2.2.1 ∧ r.2.1 ≤ 0 ∧ r.2.2.2.1 ≤ 13 ∧ r.2.2.2.2.1 ≤ 6 ∧ (∀ i : Nat, r.2.2.2.2.2.2.2.2.2.2.1 i = f11 i ∨ 0 ≤ r.2.2.2.2.2.2.2.2.2.2.1 i ∧ r.2.2.2.2.2.2.2.2.2.2.1 i < f8 (0 : Int32).toNatClampNeg) ∧ r.2.1 = 0) := by
  unfold fn_X12_check
  refine zw_if (fun c1 => ?_) (fun c1 => ?_)
  · refine zw_zb0 (sf_X12_isRefused 3 f2 (by first | with_reducible assumption | exact ⟨by with_reducible assumption, by with_reducible assumption⟩ | first | lia | grind [zu_at, zu_atL, zvn])) (fun o_2 ho_2 => ?_)
    obtain ⟨o_2_0, o_2_1⟩ := o_2
    try dsimp only at ho_2
    obtain ⟨ho_2_0, ho_2_1, ho_2_2⟩ := ho_2
    refine zw_some ?_
    first | exact True.intro | ((try dsimp only); (repeat' apply And.intro) <;> first | with_reducible assumption | first | lia | grind [zu_at, zu_atL, zvn])
  refine zw_if (fun c2 => ?_) (fun c2 => ?_)
  · have hn0 := h_f1 (0 : Int32).toNatClampNeg
    refine zw_zl32 (fun s_7 => 0 ≤ s_7.1 ∧ s_7.1 ≤ 14 ∧ s_7.1 ≤ (f1 (0 : Int32).toNatClampNeg)) (fun s_7 => 14 - s_7.1) (by (try dsimp only); (repeat' apply And.intro) <;> first | with_reducible assumption | first | lia | grind [zu_at, zu_atL, zvn]) (by (try dsimp only); first | lia | grind [zu_at, zu_atL, zvn]) (fun s_7 back_7 Hback_7 hback_7 => ?_)
    obtain ⟨s_7_0, s_7_1, s_7_2, s_7_3, s_7_4⟩ := s_7
    try dsimp only at Hback_7 hback_7
    obtain ⟨Hback_7_0, Hback_7_1, Hback_7_2⟩ := Hback_7
    refine zw_if (fun c3 => ?_) (fun c3 => ?_)
    · refine zw_zl32 (fun s_9 => (∀ i : Nat, 0 ≤ s_9.2.2.2.1 i ∧ s_9.2.2.2.1 i ≤ 3) ∧ 0 ≤ s_9.1 ∧ s_9.1 ≤ 14 ∧ s_9.1 ≤ s_7_0 ∧ (∀ i : Nat, s_9.2.2.2.1 i = f11 i ∨ 0 ≤ s_9.2.2.2.1 i ∧ s_9.2.2.2.1 i < f8 (0 : Int32).toNatClampNeg)) (fun s_9 => 14 - s_9.1) (by (try dsimp only); (repeat' apply And.intro) <;> first | with_reducible assumption | ((try clear hback_7); first | lia | grind [zu_at, zu_atL, zvn])) (by (try dsimp only); ((try clear hback_7); first | lia | grind [zu_at, zu_atL, zvn])) (fun s_9 back_9 Hback_9 hback_9 => ?_)
      obtain ⟨s_9_0, s_9_1, s_9_2, s_9_3, s_9_4⟩ := s_9
      try dsimp only at Hback_9 hback_9
      obtain ⟨Hback_9_0, Hback_9_1, Hback_9_2, Hback_9_3, Hback_9_4⟩ := Hback_9
      refine zw_if (fun c4 => ?_) (fun c4 => ?_)
      · refine zw_some ?_
        first | exact True.intro | ((try dsimp only); (repeat' apply And.intro) <;> first | with_reducible assumption | ((try clear hback_7); (try clear hback_9); first | lia | grind [zu_at, zu_atL, zvn]))
      have hst := hx_0.resolve_left (by lia)
      have hs1 := hst.1
      have hs2 := hst.2.1
      have hs3 := zStR hst.2.1 hst.2.2 Hback_9_4
      clear hst hx_0
      refine zw_zb0 (sf_X12_breaks s_9_0 (-1) w0_34 s_7_1 f8 f1 f9 f10 s_9_3 f12 f13 f14 s_9_1 f16 f17 s_9_2 f19 s_9_4 s_7_2 s_7_3 s_7_4 f21 f22 (by first | with_reducible assumption | exact ⟨by with_reducible assumption, by with_reducible assumption⟩ | ((try clear hback_7); (try clear hback_9); first | lia | grind [zu_at, zu_atL, zvn])) (by first | with_reducible assumption | exact ⟨by with_reducible assumption, by with_reducible assumption⟩ | ((try clear hback_7); (try clear hback_9); first | lia | grind [zu_at, zu_atL, zvn])) (by first | with_reducible assumption | exact ⟨by with_reducible assumption, by with_reducible assumption⟩ | ((try clear hback_7); (try clear hback_9); first | lia | grind [zu_at, zu_atL, zvn])) (by first | with_reducible assumption | exact ⟨by with_reducible assumption, by with_reducible assumption⟩ | ((try clear hback_7); (try clear hback_9); first | lia | grind [zu_at, zu_atL, zvn])) (by first | with_reducible assumption | exact ⟨by with_reducible assumption, by with_reducible assumption⟩ | ((try clear hback_7); (try clear hback_9); first | lia | grind [zu_at, zu_atL, zvn])) (by first | with_reducible assumption | exact ⟨by with_reducible assumption, by with_reducible assumption⟩ | ((try clear hback_7); (try clear hback_9); first | lia | grind [zu_at, zu_atL, zvn])) (by first | with_reducible assumption | exact ⟨by with_reducible assumption, by with_reducible assumption⟩ | ((try clear hback_7); (try clear hback_9); first | lia | grind [zu_at, zu_atL, zvn])) (by first | with_reducible assumption | exact ⟨by with_reducible assumption, by with_reducible assumption⟩ | ((try clear hback_7); (try clear hback_9); first | lia | grind [zu_at, zu_atL, zvn])) (by first | with_reducible assumption | exact ⟨by with_reducible assumption, by with_reducible assumption⟩ | ((try clear hback_7); (try clear hback_9); first | lia | grind [zu_at, zu_atL, zvn])) (by first | with_reducible assumption | exact ⟨by with_reducible assumption, by with_reducible assumption⟩ | ((try clear hback_7); (try clear hback_9); first | lia | grind [zu_at, zu_atL, zvn])) (by first | with_reducible assumption | exact ⟨by with_reducible assumption, by with_reducible assumption⟩ | ((try clear hback_7); (try clear hback_9); first | lia | grind [zu_at, zu_atL, zvn]))) (fun o_11 ho_11 => ?_)
      obtain ⟨o_11_0, o_11_1, o_11_2, o_11_3, o_11_4⟩ := o_11
      try dsimp only at ho_11
      obtain ⟨ho_11_0, ho_11_1, ho_11_2, ho_11_3⟩ := ho_11
      refine zw_if (fun c5 => ?_) (fun c5 => ?_)
      · exact hback_9 _ (by (try dsimp only); (repeat' apply And.intro) <;> first | with_reducible assumption | ((try clear hback_7); (try clear hback_9); first | lia | grind [zu_at, zu_atL, zvn])) (by (try dsimp only); ((try clear hback_7); (try clear hback_9); first | lia | grind [zu_at, zu_atL, zvn])) (by (try dsimp only); ((try clear hback_7); (try clear hback_9); first | lia | grind [zu_at, zu_atL, zvn]))
      refine zw_zb0 (sf_X12_isRefused 3 f2 (by first | with_reducible assumption | exact ⟨by with_reducible assumption, by with_reducible assumption⟩ | ((try clear hback_7); (try clear hback_9); first | lia | grind [zu_at, zu_atL, zvn]))) (fun o_16 ho_16 => ?_)
      obtain ⟨o_16_0, o_16_1⟩ := o_16
      try dsimp only at ho_16
      obtain ⟨ho_16_0, ho_16_1, ho_16_2⟩ := ho_16
      refine zw_some ?_
      first | exact True.intro | ((try dsimp only); (repeat' apply And.intro) <;> first | with_reducible assumption | ((try clear hback_7); (try clear hback_9); first | lia | grind [zu_at, zu_atL, zvn]))
    refine zw_zg32 1200 (by decide) (by (try dsimp only); ((try clear hback_7); (try clear hback_9); first | lia | grind [zu_at, zu_atL, zvn])) ?_
    refine zw_zg32 14 (by decide) (by (try dsimp only); ((try clear hback_7); (try clear hback_9); first | lia | grind [zu_at, zu_atL, zvn])) ?_
    refine zw_zn1 ?_
    refine zw_zb0 (sf_X12_readsLong ((25 * s_7_0) + 1) f3 (by first | with_reducible assumption | exact ⟨by with_reducible assumption, by with_reducible assumption⟩ | ((try clear hback_7); (try clear hback_9); first | lia | grind [zu_at, zu_atL, zvn])) (by first | with_reducible assumption | exact ⟨by with_reducible assumption, by with_reducible assumption⟩ | ((try clear hback_7); (try clear hback_9); first | lia | grind [zu_at, zu_atL, zvn]))) (fun o_23 ho_23 => ?_)
    refine zw_zb0 (sf_X12_readsLong ((25 * s_7_0) + 9) f3 (by first | with_reducible assumption | exact ⟨by with_reducible assumption, by with_reducible assumption⟩ | ((try clear hback_7); (try clear hback_9); first | lia | grind [zu_at, zu_atL, zvn])) (by first | with_reducible assumption | exact ⟨by with_reducible assumption, by with_reducible assumption⟩ | ((try clear hback_7); (try clear hback_9); first | lia | grind [zu_at, zu_atL, zvn]))) (fun o_27 ho_27 => ?_)
    refine zw_zb0 (sf_X12_readsLong ((25 * s_7_0) + 17) f3 (by first | with_reducible assumption | exact ⟨by with_reducible assumption, by with_reducible assumption⟩ | ((try clear hback_7); (try clear hback_9); first | lia | grind [zu_at, zu_atL, zvn])) (by first | with_reducible assumption | exact ⟨by with_reducible assumption, by with_reducible assumption⟩ | ((try clear hback_7); (try clear hback_9); first | lia | grind [zu_at, zu_atL, zvn]))) (fun o_31 ho_31 => ?_)
    exact hback_7 _ (by (try dsimp only); (repeat' apply And.intro) <;> first | with_reducible assumption | ((try clear hback_7); (try clear hback_9); first | lia | grind [zu_at, zu_atL, zvn])) (by (try dsimp only); ((try clear hback_7); (try clear hback_9); first | lia | grind [zu_at, zu_atL, zvn])) (by (try dsimp only); ((try clear hback_7); (try clear hback_9); first | lia | grind [zu_at, zu_atL, zvn]))
  refine zw_zb0 (sf_X12_isRefused 3 f2 (by first | with_reducible assumption | exact ⟨by with_reducible assumption, by with_reducible assumption⟩ | ((try clear hback_7); (try clear hback_9); first | lia | grind [zu_at, zu_atL, zvn]))) (fun o_35 ho_35 => ?_)
  obtain ⟨o_35_0, o_35_1⟩ := o_35
  try dsimp only at ho_35
  obtain ⟨ho_35_0, ho_35_1, ho_35_2⟩ := ho_35
  refine zw_some ?_
  first | exact True.intro | ((try dsimp only); (repeat' apply And.intro) <;> first | with_reducible assumption | ((try clear hback_7); (try clear hback_9); first | lia | grind [zu_at, zu_atL, zvn]))
set_option maxHeartbeats 4000000 in
set_option maxRecDepth 100000 in
theorem sf_X12_broken (p1 : Int32) (v0_58 : Int32) (v0_59 : Int32) : zw (fn_X12_broken p1 v0_58 v0_59) (fun r => True) := by
  unfold fn_X12_broken
  refine zw_if (fun c1 => ?_) (fun c1 => ?_)
  · refine zw_some ?_
    first | exact True.intro | ((try dsimp only); (repeat' apply And.intro) <;> first | with_reducible assumption | first | lia | grind [zu_at, zu_atL, zvn])
  refine zw_if (fun c2 => ?_) (fun c2 => ?_)
  · refine zw_some ?_
    first | exact True.intro | ((try dsimp only); (repeat' apply And.intro) <;> first | with_reducible assumption | first | lia | grind [zu_at, zu_atL, zvn])
  refine zw_some ?_
  first | exact True.intro | ((try dsimp only); (repeat' apply And.intro) <;> first | with_reducible assumption | first | lia | grind [zu_at, zu_atL, zvn])
set_option maxHeartbeats 4000000 in
set_option maxRecDepth 100000 in
theorem sf_X12_draw (j1 : Int64) (v0_64 : Int32) : zw (fn_X12_draw j1 v0_64) (fun r => True) := by
  unfold fn_X12_draw
  refine zw_zn (fun x_1 ex_1 => ?_)
  refine zw_some ?_
  first | exact True.intro | ((try dsimp only); (repeat' apply And.intro) <;> first | with_reducible assumption | first | lia | grind [zu_at, zu_atL, zvn])
set_option maxHeartbeats 4000000 in
set_option maxRecDepth 100000 in
theorem sf_X12_exactOf (p1 : Int32) (p2 : Int32) (f1 : Nat → Int32) (f2 : Nat → Int32) (f3 : Nat → Int64) (f4 : Nat → Int64) (f5 : Nat → Int64) (h_p1 : 0 ≤ p1 ∧ p1 ≤ 13) (h_p2 : 0 ≤ p2 ∧ p2 ≤ 1) (h_f1 : (∀ i : Nat, (-1) ≤ f1 i ∧ f1 i ≤ 13)) (h_f2 : (∀ i : Nat, (-1) ≤ f2 i ∧ f2 i ≤ 13)) : zw (fn_X12_exactOf p1 p2 f1 f2 f3 f4 f5) (fun r => True) := by
  unfold fn_X12_exactOf
  refine zw_zj (fun s_1 => (-1) ≤ s_1 ∧ s_1 ≤ 13) (fun s_1 Hj_1 => ?_) (fun j_1 hj_1 => ?_)
  · obtain ⟨Hj_1_0, Hj_1_1⟩ := Hj_1
    refine zw_if (fun c1 => ?_) (fun c1 => ?_)
    · refine zw_if (fun c2 => ?_) (fun c2 => ?_)
      · refine zw_zg32 28 (by decide) (by (try dsimp only); ((try clear hj_1); first | lia | grind [zu_at, zu_atL, zvn])) ?_
        refine zw_some ?_
        first | exact True.intro | ((try dsimp only); (repeat' apply And.intro) <;> first | with_reducible assumption | ((try clear hj_1); first | lia | grind [zu_at, zu_atL, zvn]))
      refine zw_zg32 28 (by decide) (by (try dsimp only); ((try clear hj_1); first | lia | grind [zu_at, zu_atL, zvn])) ?_
      refine zw_some ?_
      first | exact True.intro | ((try dsimp only); (repeat' apply And.intro) <;> first | with_reducible assumption | ((try clear hj_1); first | lia | grind [zu_at, zu_atL, zvn]))
    refine zw_zg32 14 (by decide) (by (try dsimp only); ((try clear hj_1); first | lia | grind [zu_at, zu_atL, zvn])) ?_
    refine zw_some ?_
    first | exact True.intro | ((try dsimp only); (repeat' apply And.intro) <;> first | with_reducible assumption | ((try clear hj_1); first | lia | grind [zu_at, zu_atL, zvn]))
  refine zw_if (fun c3 => ?_) (fun c3 => ?_)
  · refine zw_zg32 28 (by decide) (by (try dsimp only); ((try clear hj_1); first | lia | grind [zu_at, zu_atL, zvn])) ?_
    exact hj_1 _ (by first | exact True.intro | ((try dsimp only); (repeat' apply And.intro) <;> first | with_reducible assumption | ((try clear hj_1); first | lia | grind [zu_at, zu_atL, zvn])))
  refine zw_zg32 28 (by decide) (by (try dsimp only); ((try clear hj_1); first | lia | grind [zu_at, zu_atL, zvn])) ?_
  exact hj_1 _ (by first | exact True.intro | ((try dsimp only); (repeat' apply And.intro) <;> first | with_reducible assumption | ((try clear hj_1); first | lia | grind [zu_at, zu_atL, zvn])))
set_option maxHeartbeats 4000000 in
set_option maxRecDepth 100000 in
theorem sf_X12_castOf (p1 : Int32) (p2 : Int32) (f1 : Nat → Int32) (f2 : Nat → Int32) (f3 : Nat → Int64) (f4 : Nat → Int64) (f5 : Nat → Int64) (f6 : Nat → Int32) (f7 : Nat → Int32) (h_p1 : 0 ≤ p1 ∧ p1 ≤ 13) (h_p2 : 0 ≤ p2 ∧ p2 ≤ 1) (h_f1 : (∀ i : Nat, (-1) ≤ f1 i ∧ f1 i ≤ 13)) (h_f2 : (∀ i : Nat, (-1) ≤ f2 i ∧ f2 i ≤ 13)) (h_f6 : (∀ i : Nat, 0 ≤ f6 i ∧ f6 i ≤ 3)) (hx_0 : (∀ i : Nat, 1 ≤ f7 (f6 i).toNatClampNeg)) : zw (fn_X12_castOf p1 p2 f1 f2 f3 f4 f5 f6 f7) (fun r => True) := by
  unfold fn_X12_castOf
  refine zw_zj (fun s_1 => (-1) ≤ s_1 ∧ s_1 ≤ 13) (fun s_1 Hj_1 => ?_) (fun j_1 hj_1 => ?_)
  · obtain ⟨Hj_1_0, Hj_1_1⟩ := Hj_1
    refine zw_zj (fun s_2 => True) (fun s_2 Hj_2 => ?_) (fun j_2 hj_2 => ?_)
    · refine zw_zg32 14 (by decide) (by (try dsimp only); first | lia | grind [zu_at, zu_atL, zvn, z64_r]) ?_
      refine zw_zg32 8 (by decide) (by (try dsimp only); first | lia | grind [zu_at, zu_atL, zvn, z64_r]) ?_
      refine zw_zb0 (sf_X12_rounded s_2 ((f7 (f6 p1.toNatClampNeg).toNatClampNeg).toInt64) (by first | with_reducible assumption | exact ⟨by with_reducible assumption, by with_reducible assumption⟩ | first | lia | grind [zu_at, zu_atL, zvn, z64_r])) (fun o_5 ho_5 => ?_)
      refine zw_some ?_
      first | exact True.intro | ((try dsimp only); (repeat' apply And.intro) <;> first | with_reducible assumption | first | lia | grind [zu_at, zu_atL, zvn, z64_r])
    refine zw_if (fun c1 => ?_) (fun c1 => ?_)
    · refine zw_if (fun c2 => ?_) (fun c2 => ?_)
      · refine zw_zg32 28 (by decide) (by (try dsimp only); first | lia | grind [zu_at, zu_atL, zvn, z64_r]) ?_
        exact hj_2 _ (by first | exact True.intro | ((try dsimp only); (repeat' apply And.intro) <;> first | with_reducible assumption | first | lia | grind [zu_at, zu_atL, zvn, z64_r]))
      refine zw_zg32 28 (by decide) (by (try dsimp only); first | lia | grind [zu_at, zu_atL, zvn, z64_r]) ?_
      exact hj_2 _ (by first | exact True.intro | ((try dsimp only); (repeat' apply And.intro) <;> first | with_reducible assumption | first | lia | grind [zu_at, zu_atL, zvn, z64_r]))
    refine zw_zg32 14 (by decide) (by (try dsimp only); first | lia | grind [zu_at, zu_atL, zvn, z64_r]) ?_
    exact hj_2 _ (by first | exact True.intro | ((try dsimp only); (repeat' apply And.intro) <;> first | with_reducible assumption | first | lia | grind [zu_at, zu_atL, zvn, z64_r]))
  refine zw_if (fun c3 => ?_) (fun c3 => ?_)
  · refine zw_zg32 28 (by decide) (by (try dsimp only); first | lia | grind [zu_at, zu_atL, zvn, z64_r]) ?_
    exact hj_1 _ (by first | exact True.intro | ((try dsimp only); (repeat' apply And.intro) <;> first | with_reducible assumption | first | lia | grind [zu_at, zu_atL, zvn, z64_r]))
  refine zw_zg32 28 (by decide) (by (try dsimp only); first | lia | grind [zu_at, zu_atL, zvn, z64_r]) ?_
  exact hj_1 _ (by first | exact True.intro | ((try dsimp only); (repeat' apply And.intro) <;> first | with_reducible assumption | first | lia | grind [zu_at, zu_atL, zvn, z64_r]))
set_option maxHeartbeats 4000000 in
set_option maxRecDepth 100000 in
theorem sf_X12_triesOnce (v0_64 : Int32) (f1 : Nat → Int32) (f2 : Nat → Int32) (f3 : Nat → Int32) (f4 : Nat → Int32) (f5 : Nat → Int32) (f6 : Nat → Int32) (f7 : Nat → Int64) (f8 : Nat → Int64) (f9 : Nat → Int64) (f10 : Nat → Int64) (h_f1 : (∀ i : Nat, 0 ≤ f1 i ∧ f1 i ≤ 14)) (h_f2 : (∀ i : Nat, 0 ≤ f2 i ∧ f2 i ≤ 3)) (h_f5 : (∀ i : Nat, (-1) ≤ f5 i ∧ f5 i ≤ 13)) (h_f6 : (∀ i : Nat, (-1) ≤ f6 i ∧ f6 i ≤ 13)) (hx_0 : (∀ i : Nat, 1 ≤ f3 (f2 i).toNatClampNeg)) : zw (fn_X12_triesOnce v0_64 f1 f2 f3 f4 f5 f6 f7 f8 f9 f10) (fun r => True) := by
  unfold fn_X12_triesOnce
  refine zw_zl32 (fun s_1 => 0 ≤ s_1.1 ∧ s_1.1 ≤ 14) (fun s_1 => 14 - s_1.1) (by (try dsimp only); (repeat' apply And.intro) <;> first | with_reducible assumption | first | lia | grind [zu_at, zu_atL, zvn, z64_r]) (by (try dsimp only); first | lia | grind [zu_at, zu_atL, zvn, z64_r]) (fun s_1 back_1 Hback_1 hback_1 => ?_)
  obtain ⟨s_1_0, s_1_1, s_1_2, s_1_3⟩ := s_1
  try dsimp only at Hback_1 hback_1
  obtain ⟨Hback_1_0, Hback_1_1⟩ := Hback_1
  refine zw_if (fun c1 => ?_) (fun c1 => ?_)
  · refine zw_some ?_
    first | exact True.intro | ((try dsimp only); (repeat' apply And.intro) <;> first | with_reducible assumption | first | lia | grind [zu_at, zu_atL, zvn, z64_r])
  refine zw_zg32 14 (by decide) (by (try dsimp only); first | lia | grind [zu_at, zu_atL, zvn, z64_r]) ?_
  refine zw_zg32 8 (by decide) (by (try dsimp only); first | lia | grind [zu_at, zu_atL, zvn, z64_r]) ?_
  refine zw_zg32 28 (by decide) (by (try dsimp only); first | lia | grind [zu_at, zu_atL, zvn, z64_r]) ?_
  refine zw_if (fun c2 => ?_) (fun c2 => ?_)
  · refine zw_zb0 (sf_X12_draw (((f9 s_1_0.toNatClampNeg) - (f8 s_1_0.toNatClampNeg)) + (1 : Int64)) s_1_1) (fun o_31 ho_31 => ?_)
    obtain ⟨o_31_0, o_31_1⟩ := o_31
    try dsimp only at ho_31
    refine zw_zn1 ?_
    refine zw_zb0 (sf_X12_rounded ((vp_updL s_1_2 s_1_0.toNatClampNeg ((f8 s_1_0.toNatClampNeg) + o_31_0)) s_1_0.toNatClampNeg) ((f3 (f2 s_1_0.toNatClampNeg).toNatClampNeg).toInt64) (by first | with_reducible assumption | exact ⟨by with_reducible assumption, by with_reducible assumption⟩ | first | lia | grind [zu_at, zu_atL, zvn, z64_r])) (fun o_36 ho_36 => ?_)
    exact hback_1 _ (by (try dsimp only); (repeat' apply And.intro) <;> first | with_reducible assumption | first | lia | grind [zu_at, zu_atL, zvn, z64_r]) (by (try dsimp only); first | lia | grind [zu_at, zu_atL, zvn, z64_r]) (by (try dsimp only); first | lia | grind [zu_at, zu_atL, zvn, z64_r])
  refine zw_zb0 (sf_X12_exactOf s_1_0 0 f5 f6 s_1_2 f8 f9 (by first | with_reducible assumption | exact ⟨by with_reducible assumption, by with_reducible assumption⟩ | first | lia | grind [zu_at, zu_atL, zvn, z64_r]) (by first | with_reducible assumption | exact ⟨by with_reducible assumption, by with_reducible assumption⟩ | first | lia | grind [zu_at, zu_atL, zvn, z64_r]) (by first | with_reducible assumption | exact ⟨by with_reducible assumption, by with_reducible assumption⟩ | first | lia | grind [zu_at, zu_atL, zvn, z64_r]) (by first | with_reducible assumption | exact ⟨by with_reducible assumption, by with_reducible assumption⟩ | first | lia | grind [zu_at, zu_atL, zvn, z64_r])) (fun o_7 ho_7 => ?_)
  refine zw_zb0 (sf_X12_exactOf s_1_0 1 f5 f6 s_1_2 f8 f9 (by first | with_reducible assumption | exact ⟨by with_reducible assumption, by with_reducible assumption⟩ | first | lia | grind [zu_at, zu_atL, zvn, z64_r]) (by first | with_reducible assumption | exact ⟨by with_reducible assumption, by with_reducible assumption⟩ | first | lia | grind [zu_at, zu_atL, zvn, z64_r]) (by first | with_reducible assumption | exact ⟨by with_reducible assumption, by with_reducible assumption⟩ | first | lia | grind [zu_at, zu_atL, zvn, z64_r]) (by first | with_reducible assumption | exact ⟨by with_reducible assumption, by with_reducible assumption⟩ | first | lia | grind [zu_at, zu_atL, zvn, z64_r])) (fun o_11 ho_11 => ?_)
  refine zw_zb0 (sf_X12_two (f4 s_1_0.toNatClampNeg) o_7 o_11 (1 : Int64) (by first | with_reducible assumption | exact ⟨by with_reducible assumption, by with_reducible assumption⟩ | first | lia | grind [zu_at, zu_atL, zvn, z64_r])) (fun o_15 ho_15 => ?_)
  refine zw_zb0 (sf_X12_castOf s_1_0 0 f5 f6 s_1_3 f8 f9 f2 f3 (by first | with_reducible assumption | exact ⟨by with_reducible assumption, by with_reducible assumption⟩ | first | lia | grind [zu_at, zu_atL, zvn, z64_r]) (by first | with_reducible assumption | exact ⟨by with_reducible assumption, by with_reducible assumption⟩ | first | lia | grind [zu_at, zu_atL, zvn, z64_r]) (by first | with_reducible assumption | exact ⟨by with_reducible assumption, by with_reducible assumption⟩ | first | lia | grind [zu_at, zu_atL, zvn, z64_r]) (by first | with_reducible assumption | exact ⟨by with_reducible assumption, by with_reducible assumption⟩ | first | lia | grind [zu_at, zu_atL, zvn, z64_r]) (by first | with_reducible assumption | exact ⟨by with_reducible assumption, by with_reducible assumption⟩ | first | lia | grind [zu_at, zu_atL, zvn, z64_r]) (by first | with_reducible assumption | exact ⟨by with_reducible assumption, by with_reducible assumption⟩ | first | lia | grind [zu_at, zu_atL, zvn, z64_r])) (fun o_19 ho_19 => ?_)
  refine zw_zb0 (sf_X12_castOf s_1_0 1 f5 f6 s_1_3 f8 f9 f2 f3 (by first | with_reducible assumption | exact ⟨by with_reducible assumption, by with_reducible assumption⟩ | first | lia | grind [zu_at, zu_atL, zvn, z64_r]) (by first | with_reducible assumption | exact ⟨by with_reducible assumption, by with_reducible assumption⟩ | first | lia | grind [zu_at, zu_atL, zvn, z64_r]) (by first | with_reducible assumption | exact ⟨by with_reducible assumption, by with_reducible assumption⟩ | first | lia | grind [zu_at, zu_atL, zvn, z64_r]) (by first | with_reducible assumption | exact ⟨by with_reducible assumption, by with_reducible assumption⟩ | first | lia | grind [zu_at, zu_atL, zvn, z64_r]) (by first | with_reducible assumption | exact ⟨by with_reducible assumption, by with_reducible assumption⟩ | first | lia | grind [zu_at, zu_atL, zvn, z64_r]) (by first | with_reducible assumption | exact ⟨by with_reducible assumption, by with_reducible assumption⟩ | first | lia | grind [zu_at, zu_atL, zvn, z64_r])) (fun o_23 ho_23 => ?_)
  refine zw_zb0 (sf_X12_two (f4 s_1_0.toNatClampNeg) o_19 o_23 ((f3 (f2 s_1_0.toNatClampNeg).toNatClampNeg).toInt64) (by first | with_reducible assumption | exact ⟨by with_reducible assumption, by with_reducible assumption⟩ | first | lia | grind [zu_at, zu_atL, zvn, z64_r])) (fun o_27 ho_27 => ?_)
  exact hback_1 _ (by (try dsimp only); (repeat' apply And.intro) <;> first | with_reducible assumption | first | lia | grind [zu_at, zu_atL, zvn, z64_r]) (by (try dsimp only); first | lia | grind [zu_at, zu_atL, zvn, z64_r]) (by (try dsimp only); first | lia | grind [zu_at, zu_atL, zvn, z64_r])
set_option maxHeartbeats 4000000 in
set_option maxRecDepth 100000 in
theorem sf_X12_trials (p1 : Int32) (p2 : Int32) (v0_33 : Int32) (w0_34 : Int64) (v0_38 : Int32) (v0_41 : Int32) (v0_42 : Int32) (v0_64 : Int32) (f1 : Nat → Int32) (f2 : Nat → Int32) (f3 : Nat → Int32) (f4 : Nat → Int32) (f5 : Nat → Int32) (f6 : Nat → Int32) (f7 : Nat → Int32) (f8 : Nat → Int64) (f9 : Nat → Int64) (f10 : Nat → Int64) (f11 : Nat → Int64) (f12 : Nat → Int32) (f13 : Nat → Int64) (f14 : Nat → Int32) (f15 : Nat → Int32) (f16 : Nat → Int64) (f17 : Nat → Int64) (h_v0_38 : 0 ≤ v0_38 ∧ v0_38 ≤ 1) (h_f2 : (∀ i : Nat, 0 ≤ f2 i ∧ f2 i ≤ 14)) (h_f3 : (∀ i : Nat, 0 ≤ f3 i ∧ f3 i ≤ 3)) (h_f4 : (∀ i : Nat, 0 ≤ f4 i ∧ f4 i ≤ 3)) (h_f6 : (∀ i : Nat, (-1) ≤ f6 i ∧ f6 i ≤ 13)) (h_f7 : (∀ i : Nat, (-1) ≤ f7 i ∧ f7 i ≤ 13)) (hx_0 : f2 (0 : Int32).toNatClampNeg ≤ 0 ∨ (∀ i : Nat, 1 ≤ f12 (f3 i).toNatClampNeg) ∧ (∀ i : Nat, 1 ≤ f12 (f4 i).toNatClampNeg)) : zw (fn_X12_trials p1 p2 v0_33 w0_34 v0_38 v0_41 v0_42 v0_64 f1 f2 f3 f4 f5 f6 f7 f8 f9 f10 f11 f12 f13 f14 f15 f16 f17) (fun r => (∀ i : Nat, 0 ≤ r.2.2.2.2.2.2.1 i ∧ r.2.2.2.2.2.2.1 i ≤ 3) ∧ (∀ i : Nat, r.2.2.2.2.2.2.1 i = f3 i ∨ r.2.2.2.2.2.2.1 i = f4 i)) := by
  unfold fn_X12_trials
  refine zw_zb0 (sf_X12_isIn p1.toInt64 (1 : Int64) (40 : Int64)) (fun o_1 ho_1 => ?_)
  obtain ⟨ho_1_0, ho_1_1, ho_1_2, ho_1_3, ho_1_4⟩ := ho_1
  refine zw_if (fun c1 => ?_) (fun c1 => ?_)
  · refine zw_zb0 (sf_X12_refuses 4 f1 (by first | with_reducible assumption | exact ⟨by with_reducible assumption, by with_reducible assumption⟩ | first | lia | grind [zu_at, zu_atL, zvn])) (fun o_6 ho_6 => ?_)
    obtain ⟨o_6_0, o_6_1⟩ := o_6
    try dsimp only at ho_6
    obtain ⟨ho_6_0, ho_6_1⟩ := ho_6
    refine zw_some ?_
    first | exact True.intro | ((try dsimp only); (repeat' apply And.intro) <;> first | with_reducible assumption | first | lia | grind [zu_at, zu_atL, zvn])
  refine zw_zb0 (sf_X12_isNumber p2 f2 (by first | with_reducible assumption | exact ⟨by with_reducible assumption, by with_reducible assumption⟩ | first | lia | grind [zu_at, zu_atL, zvn])) (fun o_10 ho_10 => ?_)
  obtain ⟨ho_10_0, ho_10_1, ho_10_2, ho_10_3, ho_10_4, ho_10_5⟩ := ho_10
  refine zw_if (fun c2 => ?_) (fun c2 => ?_)
  · refine zw_zb0 (sf_X12_refuses 4 f1 (by first | with_reducible assumption | exact ⟨by with_reducible assumption, by with_reducible assumption⟩ | first | lia | grind [zu_at, zu_atL, zvn])) (fun o_15 ho_15 => ?_)
    obtain ⟨o_15_0, o_15_1⟩ := o_15
    try dsimp only at ho_15
    obtain ⟨ho_15_0, ho_15_1⟩ := ho_15
    refine zw_some ?_
    first | exact True.intro | ((try dsimp only); (repeat' apply And.intro) <;> first | with_reducible assumption | first | lia | grind [zu_at, zu_atL, zvn])
  refine zw_zb0 (sf_X12_handPasses w0_34 v0_38 v0_41 v0_42 f2 f3 f4 f5 f6 f7 f8 f9 f10 f11 f12 f13 f14 f15 (by first | with_reducible assumption | exact ⟨by with_reducible assumption, by with_reducible assumption⟩ | first | lia | grind [zu_at, zu_atL, zvn]) (by first | with_reducible assumption | exact ⟨by with_reducible assumption, by with_reducible assumption⟩ | first | lia | grind [zu_at, zu_atL, zvn]) (by first | with_reducible assumption | exact ⟨by with_reducible assumption, by with_reducible assumption⟩ | first | lia | grind [zu_at, zu_atL, zvn]) (by first | with_reducible assumption | exact ⟨by with_reducible assumption, by with_reducible assumption⟩ | first | lia | grind [zu_at, zu_atL, zvn]) (by first | with_reducible assumption | exact ⟨by with_reducible assumption, by with_reducible assumption⟩ | first | lia | grind [zu_at, zu_atL, zvn]) (by first | with_reducible assumption | exact ⟨by with_reducible assumption, by with_reducible assumption⟩ | first | lia | grind [zu_at, zu_atL, zvn]) (by first | with_reducible assumption | exact ⟨by with_reducible assumption, by with_reducible assumption⟩ | first | lia | grind [zu_at, zu_atL, zvn])) (fun o_19 ho_19 => ?_)
  obtain ⟨o_19_0, o_19_1, o_19_2, o_19_3, o_19_4, o_19_5, o_19_6, o_19_7⟩ := o_19
  try dsimp only at ho_19
  obtain ⟨ho_19_0, ho_19_1, ho_19_2, ho_19_3, ho_19_4, ho_19_5, ho_19_6, ho_19_7, ho_19_8, ho_19_9, ho_19_10⟩ := ho_19
  refine zw_if (fun c3 => ?_) (fun c3 => ?_)
  · refine zw_zb0 (sf_X12_refuses 4 f1 (by first | with_reducible assumption | exact ⟨by with_reducible assumption, by with_reducible assumption⟩ | first | lia | grind [zu_at, zu_atL, zvn])) (fun o_39 ho_39 => ?_)
    obtain ⟨o_39_0, o_39_1⟩ := o_39
    try dsimp only at ho_39
    obtain ⟨ho_39_0, ho_39_1⟩ := ho_39
    refine zw_some ?_
    first | exact True.intro | ((try dsimp only); (repeat' apply And.intro) <;> first | with_reducible assumption | first | lia | grind [zu_at, zu_atL, zvn])
  have hz1 : (1 : Int64) ≤ p1.toInt64 ↔ 1 ≤ p1 := z64_le 1 p1
  have hz2 : p1.toInt64 ≤ (40 : Int64) ↔ p1 ≤ 40 := z64_le p1 40
  have hz3 : 1 ≤ p1 ∧ p1 ≤ 40 := by grind
  refine zw_zl32 (fun s_24 => 0 ≤ s_24.1 ∧ 0 ≤ s_24.2.1 ∧ s_24.2.1 ≤ 40 ∧ s_24.2.1 ≤ p1) (fun s_24 => 40 - s_24.2.1) (by (try dsimp only); (repeat' apply And.intro) <;> first | with_reducible assumption | first | lia | grind [zu_at, zu_atL, zvn]) (by (try dsimp only); first | lia | grind [zu_at, zu_atL, zvn]) (fun s_24 back_24 Hback_24 hback_24 => ?_)
  obtain ⟨s_24_0, s_24_1, s_24_2, s_24_3, s_24_4⟩ := s_24
  try dsimp only at Hback_24 hback_24
  obtain ⟨Hback_24_0, Hback_24_1, Hback_24_2, Hback_24_3⟩ := Hback_24
  refine zw_if (fun c4 => ?_) (fun c4 => ?_)
  · refine zw_some ?_
    first | exact True.intro | ((try dsimp only); (repeat' apply And.intro) <;> first | with_reducible assumption | ((try clear hback_24); first | lia | grind [zu_at, zu_atL, zvn]))
  refine zw_zb0 (sf_X12_triesOnce s_24_2 f2 f3 f12 f5 f6 f7 s_24_3 f9 f10 s_24_4 (by first | with_reducible assumption | exact ⟨by with_reducible assumption, by with_reducible assumption⟩ | ((try clear hback_24); first | lia | grind [zu_at, zu_atL, zvn])) (by first | with_reducible assumption | exact ⟨by with_reducible assumption, by with_reducible assumption⟩ | ((try clear hback_24); first | lia | grind [zu_at, zu_atL, zvn])) (by first | with_reducible assumption | exact ⟨by with_reducible assumption, by with_reducible assumption⟩ | ((try clear hback_24); first | lia | grind [zu_at, zu_atL, zvn])) (by first | with_reducible assumption | exact ⟨by with_reducible assumption, by with_reducible assumption⟩ | ((try clear hback_24); first | lia | grind [zu_at, zu_atL, zvn])) (by first | with_reducible assumption | exact ⟨by with_reducible assumption, by with_reducible assumption⟩ | ((try clear hback_24); first | lia | grind [zu_at, zu_atL, zvn]))) (fun o_26 ho_26 => ?_)
  obtain ⟨o_26_0, o_26_1, o_26_2⟩ := o_26
  try dsimp only at ho_26
  refine zw_zg32 14 (by decide) (by (try dsimp only); ((try clear hback_24); first | lia | grind [zu_at, zu_atL, zvn])) ?_
  refine zw_zb0 (sf_X12_amount ((o_26_2 p2.toNatClampNeg) - (o_26_1 p2.toNatClampNeg))) (fun o_31 ho_31 => ?_)
  refine zw_zb0 (sf_X12_greater s_24_0 o_31) (fun o_35 ho_35 => ?_)
  exact hback_24 _ (by (try dsimp only); (repeat' apply And.intro) <;> first | with_reducible assumption | ((try clear hback_24); first | lia | grind [zu_at, zu_atL, zvn])) (by (try dsimp only); ((try clear hback_24); first | lia | grind [zu_at, zu_atL, zvn])) (by (try dsimp only); ((try clear hback_24); first | lia | grind [zu_at, zu_atL, zvn]))
set_option maxHeartbeats 4000000 in
set_option maxRecDepth 100000 in
theorem sf_X12_trial (p1 : Int32) (p2 : Int32) (v0_33 : Int32) (w0_34 : Int64) (v0_38 : Int32) (v0_41 : Int32) (v0_42 : Int32) (v0_64 : Int32) (f1 : Nat → Int32) (f2 : Nat → Int32) (f3 : Nat → Int32) (f4 : Nat → Int32) (f5 : Nat → Int32) (f6 : Nat → Int32) (f7 : Nat → Int64) (f8 : Nat → Int64) (f9 : Nat → Int64) (f10 : Nat → Int64) (f11 : Nat → Int32) (f12 : Nat → Int64) (f13 : Nat → Int32) (f14 : Nat → Int32) (f15 : Nat → Int64) (f16 : Nat → Int64) (h_p2 : 0 ≤ p2 ∧ p2 ≤ 1) (h_v0_38 : 0 ≤ v0_38 ∧ v0_38 ≤ 1) (h_f1 : (∀ i : Nat, 0 ≤ f1 i ∧ f1 i ≤ 14)) (h_f2 : (∀ i : Nat, 0 ≤ f2 i ∧ f2 i ≤ 3)) (h_f3 : (∀ i : Nat, 0 ≤ f3 i ∧ f3 i ≤ 3)) (h_f5 : (∀ i : Nat, (-1) ≤ f5 i ∧ f5 i ≤ 13)) (h_f6 : (∀ i : Nat, (-1) ≤ f6 i ∧ f6 i ≤ 13)) (hx_0 : f1 (0 : Int32).toNatClampNeg ≤ 0 ∨ (∀ i : Nat, 1 ≤ f11 (f2 i).toNatClampNeg) ∧ (∀ i : Nat, 1 ≤ f11 (f3 i).toNatClampNeg)) : zw (fn_X12_trial p1 p2 v0_33 w0_34 v0_38 v0_41 v0_42 v0_64 f1 f2 f3 f4 f5 f6 f7 f8 f9 f10 f11 f12 f13 f14 f15 f16) (fun r => (∀ i : Nat, 0 ≤ r.2.2.2.2.2.1 i ∧ r.2.2.2.2.2.1 i ≤ 3) ∧ (∀ i : Nat, r.2.2.2.2.2.1 i = f2 i ∨ r.2.2.2.2.2.1 i = f3 i)) := by
  unfold fn_X12_trial
  refine zw_zb0 (sf_X12_isNumber p1 f1 (by first | with_reducible assumption | exact ⟨by with_reducible assumption, by with_reducible assumption⟩ | first | lia | grind [zu_at, zu_atL, zvn])) (fun o_1 ho_1 => ?_)
  obtain ⟨ho_1_0, ho_1_1, ho_1_2, ho_1_3, ho_1_4, ho_1_5⟩ := ho_1
  refine zw_if (fun c1 => ?_) (fun c1 => ?_)
  · refine zw_some ?_
    first | exact True.intro | ((try dsimp only); (repeat' apply And.intro) <;> first | with_reducible assumption | first | lia | grind [zu_at, zu_atL, zvn])
  refine zw_zb0 (sf_X12_handPasses w0_34 v0_38 v0_41 v0_42 f1 f2 f3 f4 f5 f6 f7 f8 f9 f10 f11 f12 f13 f14 (by first | with_reducible assumption | exact ⟨by with_reducible assumption, by with_reducible assumption⟩ | first | lia | grind [zu_at, zu_atL, zvn]) (by first | with_reducible assumption | exact ⟨by with_reducible assumption, by with_reducible assumption⟩ | first | lia | grind [zu_at, zu_atL, zvn]) (by first | with_reducible assumption | exact ⟨by with_reducible assumption, by with_reducible assumption⟩ | first | lia | grind [zu_at, zu_atL, zvn]) (by first | with_reducible assumption | exact ⟨by with_reducible assumption, by with_reducible assumption⟩ | first | lia | grind [zu_at, zu_atL, zvn]) (by first | with_reducible assumption | exact ⟨by with_reducible assumption, by with_reducible assumption⟩ | first | lia | grind [zu_at, zu_atL, zvn]) (by first | with_reducible assumption | exact ⟨by with_reducible assumption, by with_reducible assumption⟩ | first | lia | grind [zu_at, zu_atL, zvn]) (by first | with_reducible assumption | exact ⟨by with_reducible assumption, by with_reducible assumption⟩ | first | lia | grind [zu_at, zu_atL, zvn])) (fun o_6 ho_6 => ?_)
  obtain ⟨o_6_0, o_6_1, o_6_2, o_6_3, o_6_4, o_6_5, o_6_6, o_6_7⟩ := o_6
  try dsimp only at ho_6
  obtain ⟨ho_6_0, ho_6_1, ho_6_2, ho_6_3, ho_6_4, ho_6_5, ho_6_6, ho_6_7, ho_6_8, ho_6_9, ho_6_10⟩ := ho_6
  refine zw_if (fun c2 => ?_) (fun c2 => ?_)
  · refine zw_some ?_
    first | exact True.intro | ((try dsimp only); (repeat' apply And.intro) <;> first | with_reducible assumption | first | lia | grind [zu_at, zu_atL, zvn])
  refine zw_zb0 (sf_X12_triesOnce v0_64 f1 f2 f11 f4 f5 f6 f15 f8 f9 f16 (by first | with_reducible assumption | exact ⟨by with_reducible assumption, by with_reducible assumption⟩ | first | lia | grind [zu_at, zu_atL, zvn]) (by first | with_reducible assumption | exact ⟨by with_reducible assumption, by with_reducible assumption⟩ | first | lia | grind [zu_at, zu_atL, zvn]) (by first | with_reducible assumption | exact ⟨by with_reducible assumption, by with_reducible assumption⟩ | first | lia | grind [zu_at, zu_atL, zvn]) (by first | with_reducible assumption | exact ⟨by with_reducible assumption, by with_reducible assumption⟩ | first | lia | grind [zu_at, zu_atL, zvn]) (by first | with_reducible assumption | exact ⟨by with_reducible assumption, by with_reducible assumption⟩ | first | lia | grind [zu_at, zu_atL, zvn])) (fun o_11 ho_11 => ?_)
  obtain ⟨o_11_0, o_11_1, o_11_2⟩ := o_11
  try dsimp only at ho_11
  refine zw_if (fun c3 => ?_) (fun c3 => ?_)
  · refine zw_zg32 14 (by decide) (by (try dsimp only); first | lia | grind [zu_at, zu_atL, zvn]) ?_
    refine zw_some ?_
    first | exact True.intro | ((try dsimp only); (repeat' apply And.intro) <;> first | with_reducible assumption | first | lia | grind [zu_at, zu_atL, zvn])
  refine zw_zg32 14 (by decide) (by (try dsimp only); first | lia | grind [zu_at, zu_atL, zvn]) ?_
  refine zw_some ?_
  first | exact True.intro | ((try dsimp only); (repeat' apply And.intro) <;> first | with_reducible assumption | first | lia | grind [zu_at, zu_atL, zvn])
set_option maxHeartbeats 4000000 in
set_option maxRecDepth 100000 in
theorem sf_X12_seed (p1 : Int32) (v0_64 : Int32) (f1 : Nat → Int32) : zw (fn_X12_seed p1 v0_64 f1) (fun r => 0 ≤ r.1 ∧ r.1 ≤ 1) := by
  unfold fn_X12_seed
  refine zw_if (fun c1 => ?_) (fun c1 => ?_)
  · refine zw_some ?_
    first | exact True.intro | ((try dsimp only); (repeat' apply And.intro) <;> first | with_reducible assumption | first | lia | grind [zu_at, zu_atL, zvn])
  refine zw_zb0 (sf_X12_isRefused 4 f1 (by first | with_reducible assumption | exact ⟨by with_reducible assumption, by with_reducible assumption⟩ | first | lia | grind [zu_at, zu_atL, zvn])) (fun o_2 ho_2 => ?_)
  obtain ⟨o_2_0, o_2_1⟩ := o_2
  try dsimp only at ho_2
  obtain ⟨ho_2_0, ho_2_1, ho_2_2⟩ := ho_2
  refine zw_some ?_
  first | exact True.intro | ((try dsimp only); (repeat' apply And.intro) <;> first | with_reducible assumption | first | lia | grind [zu_at, zu_atL, zvn])
set_option maxHeartbeats 4000000 in
set_option maxRecDepth 100000 in
theorem sf_X12_status (p1 : Int32) (f1 : Nat → Int32) : zw (fn_X12_status p1 f1) (fun r => True) := by
  unfold fn_X12_status
  refine zw_zb0 (sf_X12_isIn p1.toInt64 (0 : Int64) (4 : Int64)) (fun o_1 ho_1 => ?_)
  obtain ⟨ho_1_0, ho_1_1, ho_1_2, ho_1_3, ho_1_4⟩ := ho_1
  refine zw_if (fun c1 => ?_) (fun c1 => ?_)
  · refine zw_some ?_
    first | exact True.intro | ((try dsimp only); (repeat' apply And.intro) <;> first | with_reducible assumption | first | lia | grind [zu_at, zu_atL, zvn])
  have hz1 := z64_ge0 p1
  have hz2 : p1.toInt64 ≤ (4 : Int64) ↔ p1 ≤ 4 := z64_le p1 4
  have hz3 : 0 ≤ p1 ∧ p1 ≤ 4 := by grind
  refine zw_zg32 5 (by decide) (by (try dsimp only); first | lia | grind [zu_at, zu_atL, zvn]) ?_
  refine zw_some ?_
  first | exact True.intro | ((try dsimp only); (repeat' apply And.intro) <;> first | with_reducible assumption | first | lia | grind [zu_at, zu_atL, zvn])
/-! the tape as class and reference see it: 0 behind its end, 1 a letter, 2 a digit, 3 a sign, 5 a blank -/
theorem zb_some {α ρ : Type} (a : α) (k : α → Option ρ) : zb (some a) k = k a := rfl
theorem zg_in {ρ : Type} {i : Int32} {n : Nat} (c : Int32) (hc : c.toInt = (n : Int)) (h : 0 ≤ i ∧ i < c) (e : Option ρ) : zg i n e = e := by
  unfold zg
  have h1 := Int32.le_iff_toInt_le.mp h.1
  have h2 := Int32.lt_iff_toInt_lt.mp h.2
  rw [zi_0] at h1
  rw [hc] at h2
  rw [if_pos ⟨h1, h2⟩]
noncomputable def zKd (c : Int32) : Int32 := if c < 97 ∨ 122 < c then (if c < 48 ∨ 57 < c then (if c = 10 ∨ c = 32 then 5 else 3) else 2) else 1
theorem zKd_fn (c : Int32) : fn_X10_kindOf c = some (zKd c) := by
  unfold fn_X10_kindOf zj zKd
  dsimp only
  grind
noncomputable def zK (n : Int32) (g : Nat → Int32) (i : Int32) : Int32 := if i < 0 ∨ n ≤ i then 0 else zKd (g i.toNatClampNeg)
noncomputable def zB (n : Int32) (g : Nat → Int32) (i : Int32) : Int32 := if i < 0 ∨ n ≤ i then (-1) else g i.toNatClampNeg
theorem zB_fn {n : Int32} (hn : n ≤ 1200) (g : Nat → Int32) (i : Int32) : fn_X12_byteAt i n g = some (zB n g i) := by
  unfold fn_X12_byteAt zB
  by_cases c1 : i < 0
  · rw [if_pos c1, if_pos (Or.inl c1)]
  · rw [if_neg c1]
    by_cases c2 : n ≤ i
    · rw [if_pos c2, if_pos (Or.inr c2)]
    · rw [if_neg c2, if_neg (by grind), zg_in 1200 (by decide +kernel) (by grind)]
theorem zSm_fn {n : Int32} (hn : n ≤ 1200) (g : Nat → Int32) (i : Int32) : fn_X12_isSmall i n g = some (if zK n g i = 1 then 1 else 0) := by
  unfold fn_X12_isSmall
  simp only [zB_fn hn, zb_some]
  unfold zB zK zKd
  grind
theorem zDi_fn {n : Int32} (hn : n ≤ 1200) (g : Nat → Int32) (i : Int32) : fn_X12_isDigit i n g = some (if zK n g i = 2 then 1 else 0) := by
  unfold fn_X12_isDigit
  simp only [zB_fn hn, zb_some]
  unfold zB zK zKd
  grind
theorem zGw_fn (w : Int32) : fn_X12_goesWell w = some (if w = 0 then 1 else 0) := by
  unfold fn_X12_goesWell
  grind
noncomputable def zTp (f g : Nat → Int32) : Prop := ∀ i : Nat, (-128) ≤ f i ∧ f i ≤ 127 ∧ g i = (if f i < 0 then f i + 256 else f i)
theorem zTp_kd {f g : Nat → Int32} (h : zTp f g) (i : Nat) : zKd (f i) = zKd (g i) := by
  have := h i
  unfold zKd
  (first | ((try clear h); grind) | grind)
theorem zK_at {n i : Int32} {g : Nat → Int32} (h0 : 0 ≤ i) (h1 : i < n) : zK n g i = zKd (g i.toNatClampNeg) := by
  unfold zK
  rw [if_neg (by grind)]
theorem zK_end {n i : Int32} {g : Nat → Int32} (h : n ≤ i) : zK n g i = 0 := by
  unfold zK
  rw [if_pos (Or.inr h)]
theorem zK_ahead {n : Int32} {g : Nat → Int32} (i : Int32) (h : i < 0) : zK n g i = 0 := by
  unfold zK
  rw [if_pos (Or.inl h)]
theorem zKd_c (c : Int32) : zKd c = 1 ∧ 97 ≤ c ∧ c ≤ 122 ∨ zKd c = 2 ∧ 48 ≤ c ∧ c ≤ 57 ∨ zKd c = 5 ∧ (c = 10 ∨ c = 32) ∨ zKd c = 3 ∧ ¬ c = 10 ∧ ¬ c = 32 ∧ (c < 97 ∨ 122 < c) ∧ (c < 48 ∨ 57 < c) := by
  unfold zKd
  grind
theorem zK_in {n i : Int32} {g : Nat → Int32} (h : ¬ zK n g i = 0) : 0 ≤ i ∧ i < n := by
  unfold zK at h
  by_cases c : i < 0 ∨ n ≤ i
  · rw [if_pos c] at h
    exact absurd rfl h
  · grind
/-! the next place that is no blank -/
noncomputable def zSk (n : Int32) (g : Nat → Int32) (a s : Int32) : Prop := a ≤ s ∧ (∀ i : Int32, a ≤ i → i < s → zK n g i = 5) ∧ ¬ zK n g s = 5
theorem zSk_un {n a s t : Int32} {g : Nat → Int32} (h : zSk n g a s) (h' : zSk n g a t) : s = t := by
  obtain ⟨h1, h2, h3⟩ := h
  obtain ⟨k1, k2, k3⟩ := h'
  by_cases c : s < t
  · exact absurd (k2 s h1 c) h3
  · by_cases d : t < s
    · exact absurd (h2 t k1 d) k3
    · (first | ((try clear h); (try clear h'); grind) | grind)
theorem zSk_le {n a s : Int32} {g : Nat → Int32} (h : zSk n g a s) (ha : a ≤ n) : s ≤ n := by
  obtain ⟨h1, h2, h3⟩ := h
  by_cases c : n < s
  · have h4 := h2 n ha c
    rw [zK_end (by (first | ((try clear h); grind) | grind))] at h4
    exact absurd h4 (by decide)
  · (first | ((try clear h); grind) | grind)
theorem zHere {n a : Int32} {g : Nat → Int32} (hn : n ≤ 1200) (ha : 0 ≤ a ∧ a ≤ n) : zw (fn_X12_here n a g) (fun r => zSk n g a r.2 ∧ r.1 = zB n g r.2) := by
  unfold fn_X12_here
  simp only [zB_fn hn, zb_some]
  refine zw_zl32 (fun s_1 => a ≤ s_1 ∧ s_1 ≤ n ∧ (∀ i : Int32, a ≤ i → i < s_1 → zK n g i = 5)) (fun s_1 => n - s_1) (by (try dsimp only); grind) (by (try dsimp only); grind) (fun s_1 back_1 H h => ?_)
  obtain ⟨H1, H2, H3⟩ := H
  have hq : zB n g s_1 = 10 ∨ zB n g s_1 = 32 → zK n g s_1 = 5 ∧ s_1 < n := by
    unfold zB zK zKd
    grind
  have hnext : zK n g s_1 = 5 ∧ s_1 < n → zw (back_1 (s_1 + 1)) (fun r => zSk n g a r.2 ∧ r.1 = zB n g r.2) := by
    intro ⟨k1, k2⟩
    refine h _ ⟨by (first | ((try clear hnext); grind) | grind), by (first | ((try clear hnext); grind) | grind), fun i i1 i2 => ?_⟩ (by (try dsimp only); (first | ((try clear hnext); grind) | grind)) (by (try dsimp only); (first | ((try clear hnext); grind) | grind))
    by_cases c : i = s_1
    · rw [c]; exact k1
    · exact H3 i i1 (by (first | ((try clear hnext); grind) | grind))
  refine zw_if (fun c => hnext (hq (Or.inl c))) (fun c => ?_)
  refine zw_if (fun d => hnext (hq (Or.inr d))) (fun d => ?_)
  refine zw_some ⟨⟨H1, H3, ?_⟩, rfl⟩
  intro k
  have : zB n g s_1 = 10 ∨ zB n g s_1 = 32 := by
    revert k
    unfold zB zK zKd
    (first | ((try clear hnext); grind) | grind)
  (first | ((try clear hnext); grind) | grind)
/-! a run of one kind -/
noncomputable def zRun (n : Int32) (g : Nat → Int32) (k s e : Int32) : Prop := s ≤ e ∧ (∀ i : Int32, s ≤ i → i < e → zK n g i = k) ∧ ¬ zK n g e = k
theorem zRun_un {n k s e t : Int32} {g : Nat → Int32} (h : zRun n g k s e) (h' : zRun n g k s t) : e = t := by
  obtain ⟨h1, h2, h3⟩ := h
  obtain ⟨k1, k2, k3⟩ := h'
  by_cases c : e < t
  · exact absurd (k2 e h1 c) h3
  · by_cases d : t < e
    · exact absurd (h2 t k1 d) k3
    · (first | ((try clear h); (try clear h'); grind) | grind)
/-! a number's digits, a name's letters -/
noncomputable def zDV (g : Nat → Int32) (s : Nat) : Nat → Int
  | 0 => 0
  | k + 1 => zDV g s k * 10 + ((g (s + k)).toInt - 48)
noncomputable def zLV (g : Nat → Int32) (s k i : Nat) : Int := if i < k then (g (s + i)).toInt - 96 else 0
noncomputable def zCV (l : Nat → Int) : Int := l 0 * 33554432 + l 1 * 1048576 + l 2 * 32768 + l 3 * 1024 + l 4 * 32 + l 5
noncomputable def zMV (l : Nat → Int) : Int := l 0 + l 1 * 32 + l 2 * 1024 + l 3 * 32768 + l 4 * 1048576 + l 5 * 33554432
theorem zDV_b {g : Nat → Int32} {s : Nat} : ∀ k : Nat, (∀ i : Nat, i < k → 48 ≤ (g (s + i)).toInt ∧ (g (s + i)).toInt ≤ 57) → 0 ≤ zDV g s k ∧ zDV g s k + 1 ≤ (10 : Int) ^ k := by
  intro k
  induction k with
  | zero => intro _; exact ⟨Int.le_refl _, by show (0 : Int) + 1 ≤ 10 ^ 0; decide⟩
  | succ k ih =>
    intro h
    have h1 := ih (fun i hi => h i (by omega))
    have h2 := h k (by omega)
    rw [Int.pow_succ]
    show 0 ≤ zDV g s k * 10 + _ ∧ zDV g s k * 10 + _ + 1 ≤ _
    omega
theorem zp10 {k m : Nat} (h : k ≤ m) : (10 : Int) ^ k ≤ (10 : Int) ^ m := by
  have := Nat.pow_le_pow_right (show 1 ≤ 10 by decide) h
  have h2 : ((10 ^ k : Nat) : Int) ≤ ((10 ^ m : Nat) : Int) := by omega
  rw [Int.natCast_pow, Int.natCast_pow] at h2
  exact h2
/-! letters laid into one number -/
theorem zposN {x : Int32} (h : 0 ≤ x.toInt) : (x.toBitVec.toNat : Int) = x.toInt := by
  have h1 := BitVec.toInt_eq_toNat_cond x.toBitVec
  have h2 : x.toInt = x.toBitVec.toInt := rfl
  have h3 := x.toBitVec.isLt
  rw [h2] at h ⊢
  rw [h1] at h ⊢
  split at h
  · rw [if_pos (by assumption)]
  · omega
theorem ztoI {x : Int32} {n : Nat} (h : x.toBitVec.toNat = n) (hn : n < 2147483648) : x.toInt = (n : Int) := by
  have h1 := BitVec.toInt_eq_toNat_cond x.toBitVec
  have h2 : x.toInt = x.toBitVec.toInt := rfl
  rw [h2, h1, h, if_pos (by omega)]
theorem zorN (V X k : Nat) (hd : V % 2 ^ (k + 5) = 0) (hX : X < 32) : V ||| (X <<< k) = V + X * 2 ^ k := by
  have h2 : X <<< k < 2 ^ (k + 5) := by
    rw [Nat.shiftLeft_eq, Nat.pow_add, Nat.mul_comm (2 ^ k)]
    exact Nat.mul_lt_mul_of_pos_right (show X < 2 ^ 5 from hX) (Nat.two_pow_pos k)
  have h1 : V = (V / 2 ^ (k + 5)) <<< (k + 5) := by
    rw [Nat.shiftLeft_eq]
    exact (Nat.div_mul_cancel (Nat.dvd_of_mod_eq_zero hd)).symm
  generalize V / 2 ^ (k + 5) = a at h1
  subst h1
  rw [← Nat.shiftLeft_add_eq_or_of_lt h2, Nat.shiftLeft_eq X k]
theorem zorI {v x sh : Int32} {V X : Int} (k : Nat) (hk : k ≤ 25) (hsh : ∀ y : Int32, (y <<< sh).toBitVec = y.toBitVec <<< k) (hv : v.toInt = V) (hV : 0 ≤ V ∧ V < 1073741824) (hd : V % ((2 ^ (k + 5) : Nat) : Int) = 0) (hx : x.toInt = X) (hX : 0 ≤ X ∧ X < 32) : (v ||| (x <<< sh)).toInt = V + X * ((2 ^ k : Nat) : Int) := by
  have a1 := zposN (x := v) (by omega)
  have a2 := zposN (x := x) (by omega)
  have hk2 : 2 ^ k ≤ 2 ^ 25 := Nat.pow_le_pow_right (by decide) hk
  have e1 : (v ||| (x <<< sh)).toBitVec.toNat = v.toBitVec.toNat + x.toBitVec.toNat * 2 ^ k := by
    have e2 : (v ||| (x <<< sh)).toBitVec = v.toBitVec ||| (x <<< sh).toBitVec := rfl
    rw [e2, hsh, BitVec.toNat_or, BitVec.toNat_shiftLeft]
    have e3 : x.toBitVec.toNat <<< k < 2 ^ 32 := by
      rw [Nat.shiftLeft_eq]
      have : x.toBitVec.toNat * 2 ^ k ≤ 31 * 2 ^ 25 := Nat.mul_le_mul (by omega) hk2
      omega
    rw [Nat.mod_eq_of_lt e3]
    refine zorN _ _ _ ?_ (by omega)
    have : ((v.toBitVec.toNat % 2 ^ (k + 5) : Nat) : Int) = 0 := by
      rw [Int.natCast_emod, a1, hv]
      exact hd
    omega
  have e4 : x.toBitVec.toNat * 2 ^ k ≤ 31 * 2 ^ 25 := Nat.mul_le_mul (by omega) hk2
  have e5 := ztoI e1 (by omega)
  rw [e5, Int.natCast_add, Int.natCast_mul, a1, a2, hv, hx]
theorem zsh25 (y : Int32) : (y <<< (25 : Int32)).toBitVec = y.toBitVec <<< (25 : Nat) := rfl
theorem zsh20 (y : Int32) : (y <<< (20 : Int32)).toBitVec = y.toBitVec <<< (20 : Nat) := rfl
theorem zsh15 (y : Int32) : (y <<< (15 : Int32)).toBitVec = y.toBitVec <<< (15 : Nat) := rfl
theorem zsh10 (y : Int32) : (y <<< (10 : Int32)).toBitVec = y.toBitVec <<< (10 : Nat) := rfl
theorem zsh5 (y : Int32) : (y <<< (5 : Int32)).toBitVec = y.toBitVec <<< (5 : Nat) := rfl
theorem zsh0 (y : Int32) : (y <<< (0 : Int32)).toBitVec = y.toBitVec <<< (0 : Nat) := rfl
theorem zLet {g : Nat → Int32} {s : Nat} (k : Nat) (hk : k < 6) {v c p : Int32} (hv : v.toInt = zCV (zLV g s k)) (hl : ∀ i : Nat, i < k → 97 ≤ (g (s + i)).toInt ∧ (g (s + i)).toInt ≤ 122) (hc : c = g (s + k)) (hcr : 97 ≤ c.toInt ∧ c.toInt ≤ 122) (hp : p.toInt = (k : Int) + 1) : (v ||| ((c - 97 + 1) <<< ((5 * (6 - p)) &&& 31))).toInt = zCV (zLV g s (k + 1)) := by
  have k1 := zo_sub (x := c) (y := 97) (z := c - 97) rfl rfl (by decide +kernel : (97 : Int32).toInt = 97) (by omega)
  have k2 := zo_add (x := c - 97) (y := 1) (z := c - 97 + 1) rfl k1 zi_1' (by omega)
  rw [hc] at hcr k2
  rw [hc]
  clear k1 hc
  match k, hk with
  | 0, _ =>
    have e : p = 1 := Int32.toInt_inj.mp (by rw [hp]; decide +kernel)
    subst e
    have := zorI 25 (by decide) zsh25 hv (by simp [zCV, zLV]) (by simp [zCV, zLV]) k2 (by omega)
    rw [show ((5 * (6 - 1)) &&& 31 : Int32) = 25 by decide +kernel, this]
    simp [zCV, zLV]
    omega
  | 1, _ =>
    have e : p = 2 := Int32.toInt_inj.mp (by rw [hp]; decide +kernel)
    subst e
    have l0 := hl 0 (by decide)
    simp only [Nat.add_zero] at l0
    have := zorI 20 (by decide) zsh20 hv (by simp [zCV, zLV] <;> omega) (by simp [zCV, zLV] <;> omega) k2 (by omega)
    rw [show ((5 * (6 - 2)) &&& 31 : Int32) = 20 by decide +kernel, this]
    simp [zCV, zLV]
    omega
  | 2, _ =>
    have e : p = 3 := Int32.toInt_inj.mp (by rw [hp]; decide +kernel)
    subst e
    have l0 := hl 0 (by decide)
    have l1 := hl 1 (by decide)
    simp only [Nat.add_zero] at l0
    have := zorI 15 (by decide) zsh15 hv (by simp [zCV, zLV] <;> omega) (by simp [zCV, zLV] <;> omega) k2 (by omega)
    rw [show ((5 * (6 - 3)) &&& 31 : Int32) = 15 by decide +kernel, this]
    simp [zCV, zLV]
    omega
  | 3, _ =>
    have e : p = 4 := Int32.toInt_inj.mp (by rw [hp]; decide +kernel)
    subst e
    have l0 := hl 0 (by decide)
    have l1 := hl 1 (by decide)
    have l2 := hl 2 (by decide)
    simp only [Nat.add_zero] at l0
    have := zorI 10 (by decide) zsh10 hv (by simp [zCV, zLV] <;> omega) (by simp [zCV, zLV] <;> omega) k2 (by omega)
    rw [show ((5 * (6 - 4)) &&& 31 : Int32) = 10 by decide +kernel, this]
    simp [zCV, zLV]
    omega
  | 4, _ =>
    have e : p = 5 := Int32.toInt_inj.mp (by rw [hp]; decide +kernel)
    subst e
    have l0 := hl 0 (by decide)
    have l1 := hl 1 (by decide)
    have l2 := hl 2 (by decide)
    have l3 := hl 3 (by decide)
    simp only [Nat.add_zero] at l0
    have := zorI 5 (by decide) zsh5 hv (by simp [zCV, zLV] <;> omega) (by simp [zCV, zLV] <;> omega) k2 (by omega)
    rw [show ((5 * (6 - 5)) &&& 31 : Int32) = 5 by decide +kernel, this]
    simp [zCV, zLV]
    omega
  | 5, _ =>
    have e : p = 6 := Int32.toInt_inj.mp (by rw [hp]; decide +kernel)
    subst e
    have l0 := hl 0 (by decide)
    have l1 := hl 1 (by decide)
    have l2 := hl 2 (by decide)
    have l3 := hl 3 (by decide)
    have l4 := hl 4 (by decide)
    simp only [Nat.add_zero] at l0
    have := zorI 0 (by decide) zsh0 hv (by simp [zCV, zLV] <;> omega) (by simp [zCV, zLV] <;> omega) k2 (by omega)
    rw [show ((5 * (6 - 6)) &&& 31 : Int32) = 0 by decide +kernel, this]
    simp [zCV, zLV]
    omega
/-! the class's own words -/
noncomputable def zOwT (k : Nat) : Int32 := ([217658420, 658685952, 452579328, 117035008, 102354944, 317216384, 408551424, 446103552, 438042624, 211555456, 254268928, 48880818, 781852974] : List Int32).getD k 0
theorem zFind {p : Int32} {f1 : Nat → Int32} (h : ∀ w : Nat, w < 13 → f1 w = zOwT w) : zw (fn_X10_findOwn p f1) (fun r => r = (-1) ∧ (∀ w : Nat, w < 13 → ¬ zOwT w = p) ∨ 0 ≤ r ∧ r < 13 ∧ zOwT r.toNatClampNeg = p) := by
  unfold fn_X10_findOwn
  refine zw_zl32 (fun s_1 => 0 ≤ s_1 ∧ s_1 ≤ 13 ∧ (∀ w : Nat, (w : Int) < s_1.toInt → ¬ zOwT w = p)) (fun s_1 => 13 - s_1) ⟨by decide, by decide, fun w hw => by rw [zi_0] at hw; omega⟩ (by (try dsimp only); decide) (fun s_1 back_1 H h1 => ?_)
  obtain ⟨H1, H2, H3⟩ := H
  have k13 : (13 : Int32).toInt = 13 := by decide +kernel
  refine zw_if (fun c => ?_) (fun c => ?_)
  · refine zw_some (Or.inl ⟨rfl, fun w hw => H3 w ?_⟩)
    have := Int32.le_iff_toInt_le.mp c
    omega
  have c13 : s_1.toInt < 13 := by
    have := Int32.lt_iff_toInt_lt.mp (show s_1 < 13 by (first | ((try clear h); (try clear h1); grind) | grind))
    omega
  have c0 := Int32.le_iff_toInt_le.mp H1
  rw [zi_0] at c0
  have ew : f1 s_1.toNatClampNeg = zOwT s_1.toNatClampNeg := h _ (by show s_1.toInt.toNat < 13; omega)
  refine zw_zg32 13 (by decide) ⟨H1, by (first | ((try clear h); (try clear h1); grind) | grind)⟩ ?_
  refine zw_if (fun d => ?_) (fun d => ?_)
  · exact zw_some (Or.inr ⟨H1, by (first | ((try clear h); (try clear h1); grind) | grind), by rw [← ew]; exact d⟩)
  refine h1 _ ⟨by (first | ((try clear h); (try clear h1); grind) | grind), by (first | ((try clear h); (try clear h1); grind) | grind), fun w hw => ?_⟩ (by (try dsimp only); (first | ((try clear h); (try clear h1); grind) | grind)) (by (try dsimp only); (first | ((try clear h); (try clear h1); grind) | grind))
  have e1 := zo_add (x := s_1) (y := 1) (z := s_1 + 1) rfl rfl zi_1' (by omega)
  rw [e1] at hw
  by_cases q : (w : Int) < s_1.toInt
  · exact H3 w q
  · have : w = s_1.toNatClampNeg := by show w = s_1.toInt.toNat; omega
    rw [this, ← ew]; exact d
/-! the word, number or sign that comes next -/
noncomputable def zJn (n : Int32) (g : Nat → Int32) (a s : Int32) : Prop := s = a ∧ (zK n g (a - 1) = 1 ∨ zK n g (a - 1) = 2)
noncomputable def zOwS (v o : Int32) : Prop := o = (-1) ∧ (∀ w : Nat, w < 13 → ¬ zOwT w = v) ∨ 0 ≤ o ∧ o < 13 ∧ zOwT o.toNatClampNeg = v
noncomputable def zSz (s e : Int32) : Nat := (e - s).toNatClampNeg
noncomputable def zTok (n : Int32) (f g : Nat → Int32) (a e k s v o : Int32) : Prop :=
  zSk n g a s ∧ s ≤ e ∧ e ≤ n ∧
  (zK n g s = 0 ∧ e = s ∧ k = 0 ∧ o = (-1)
  ∨ zK n g s = 3 ∧ e = s + 1 ∧ k = 3 ∧ v = f s.toNatClampNeg ∧ o = (-1)
  ∨ zK n g s = 1 ∧ zRun n g 1 s e ∧ (zJn n g a s ∨ 6 < e - s) ∧ k = 4 ∧ o = (-1)
  ∨ zK n g s = 1 ∧ zRun n g 1 s e ∧ ¬ zJn n g a s ∧ e - s ≤ 6 ∧ k = 1 ∧ v.toInt = zCV (zLV g s.toNatClampNeg (zSz s e)) ∧ zOwS v o
  ∨ zK n g s = 2 ∧ zRun n g 2 s e ∧ (zJn n g a s ∨ 8 < e - s) ∧ k = 4 ∧ o = (-1)
  ∨ zK n g s = 2 ∧ zRun n g 2 s e ∧ ¬ zJn n g a s ∧ e - s ≤ 8 ∧ k = 2 ∧ v.toInt = zDV g s.toNatClampNeg (zSz s e) ∧ o = (-1))
/-! what the loop over a run keeps -/
noncomputable def zRd (n : Int32) (f g : Nat → Int32) (k s : Int32) (z p v : Int32) : Prop :=
  s ≤ p ∧ p ≤ n ∧ z = p - s ∧ (∀ i : Int32, s ≤ i → i < p → zK n g i = k) ∧ (k = 3 → z ≤ 1 ∧ (z = 1 → v = f s.toNatClampNeg)) ∧ (k = 1 → z ≤ 6 → v.toInt = zCV (zLV g s.toNatClampNeg z.toNatClampNeg)) ∧ (k = 2 → z ≤ 8 → v.toInt = zDV g s.toNatClampNeg z.toNatClampNeg)
theorem zRd_0 {n s k : Int32} {f g : Nat → Int32} (hs : s ≤ n) : zRd n f g k s 0 s 0 := by
  refine ⟨by grind, hs, by grind, fun i h1 h2 => by grind, fun _ => ⟨by decide, fun h => absurd h (by decide)⟩, fun _ _ => ?_, fun _ _ => ?_⟩
  · rw [zi_0, zn01.1]; rfl
  · rw [zi_0, zn01.1]; rfl
theorem zNx {p : Int32} (h0 : 0 ≤ p) (h1 : p ≤ 1200) : (p + 1).toNatClampNeg = p.toNatClampNeg + 1 := by
  have a0 := Int32.le_iff_toInt_le.mp h0
  have a1 := Int32.le_iff_toInt_le.mp h1
  rw [zi_0] at a0
  rw [show (1200 : Int32).toInt = 1200 by decide +kernel] at a1
  have e := zo_add (x := p) (y := 1) (z := p + 1) rfl rfl zi_1' (by omega)
  show (p + 1).toInt.toNat = p.toInt.toNat + 1
  omega
theorem zAdN {s p : Int32} (h0 : 0 ≤ s) (h1 : s ≤ p) (h2 : p ≤ 1200) : s.toNatClampNeg + (p - s).toNatClampNeg = p.toNatClampNeg ∧ ((p - s).toNatClampNeg : Int) = (p - s).toInt ∧ (p - s).toInt = p.toInt - s.toInt ∧ 0 ≤ s.toInt ∧ s.toInt ≤ p.toInt ∧ p.toInt ≤ 1200 := by
  have a0 := Int32.le_iff_toInt_le.mp h0
  have a1 := Int32.le_iff_toInt_le.mp h1
  have a2 := Int32.le_iff_toInt_le.mp h2
  rw [zi_0] at a0
  rw [show (1200 : Int32).toInt = 1200 by decide +kernel] at a2
  have e := zo_sub (x := p) (y := s) (z := p - s) rfl rfl rfl (by omega)
  refine ⟨?_, ?_, e, a0, a1, a2⟩
  · show s.toInt.toNat + (p - s).toInt.toNat = p.toInt.toNat
    omega
  · show (((p - s).toInt.toNat : Nat) : Int) = (p - s).toInt
    omega
theorem zRun_l {n k s p : Int32} {g : Nat → Int32} (h0 : 0 ≤ s) (h1 : s ≤ p) (h2 : p ≤ n) (hn : n ≤ 1200) (hr : ∀ i : Int32, s ≤ i → i < p → zK n g i = k) (i : Nat) (hi : i < (p - s).toNatClampNeg) : zKd (g (s.toNatClampNeg + i)) = k := by
  obtain ⟨a1, a2, a3, a4, a5, a6⟩ := zAdN h0 h1 (by (first | ((try clear hr); grind) | grind) : p ≤ 1200)
  have hlt : i < 1200 := by omega
  have e1 : (Int32.ofNat i).toInt = (i : Int) := Int32.toInt_ofNat_of_lt (by omega)
  have e2 := zo_add (x := s) (y := Int32.ofNat i) (z := s + Int32.ofNat i) rfl rfl e1 (by omega)
  have e3 : s ≤ s + Int32.ofNat i := Int32.le_iff_toInt_le.mpr (by omega)
  have e4 : s + Int32.ofNat i < p := Int32.lt_iff_toInt_lt.mpr (by omega)
  have e5 := hr _ e3 e4
  rw [zK_at (by (first | ((try clear hr); grind) | grind)) (by (first | ((try clear hr); grind) | grind))] at e5
  have e6 : (s + Int32.ofNat i).toNatClampNeg = s.toNatClampNeg + i := by
    show (s + Int32.ofNat i).toInt.toNat = s.toInt.toNat + i
    omega
  rw [e6] at e5
  exact e5
theorem zKd1 {c : Int32} (h : zKd c = 1) : 97 ≤ c.toInt ∧ c.toInt ≤ 122 := by
  have h1 : 97 ≤ c ∧ c ≤ 122 := by
    have := zKd_c c
    (first | ((try clear h); grind) | grind)
  have a := Int32.le_iff_toInt_le.mp h1.1
  have b := Int32.le_iff_toInt_le.mp h1.2
  rw [show (97 : Int32).toInt = 97 by decide +kernel] at a
  rw [show (122 : Int32).toInt = 122 by decide +kernel] at b
  exact ⟨a, b⟩
theorem zKd2 {c : Int32} (h : zKd c = 2) : 48 ≤ c.toInt ∧ c.toInt ≤ 57 := by
  have h1 : 48 ≤ c ∧ c ≤ 57 := by
    have := zKd_c c
    (first | ((try clear h); grind) | grind)
  have a := Int32.le_iff_toInt_le.mp h1.1
  have b := Int32.le_iff_toInt_le.mp h1.2
  rw [show (48 : Int32).toInt = 48 by decide +kernel] at a
  rw [show (57 : Int32).toInt = 57 by decide +kernel] at b
  exact ⟨a, b⟩
theorem zRd_s {n s k z p v : Int32} {f g : Nat → Int32} (hn : n ≤ 1200) (hs : 0 ≤ s) (ht : zTp f g) (hp : p < n) (hk : zKd (g p.toNatClampNeg) = k) (h3 : k = 3 → z = 0) (H : zRd n f g k s z p v) : zw (fn_X10_addByte (f p.toNatClampNeg) (z + 1) k v) (fun r => zRd n f g k s (z + 1) (p + 1) r) := by
  obtain ⟨H1, H2, H3, H4, H5, H6, H7⟩ := H
  have hpp : 0 ≤ p := by (first | ((try clear ht); (try clear hk); (try clear H); grind) | grind)
  obtain ⟨a1, a2, a3, a4, a5, a6⟩ := zAdN hs H1 (by (first | ((try clear ht); (try clear hk); (try clear H); grind) | grind) : p ≤ 1200)
  have hall : ∀ i : Int32, s ≤ i → i < p + 1 → zK n g i = k := by
    intro i i1 i2
    by_cases c : i = p
    · rw [c, zK_at hpp hp]; exact hk
    · exact H4 i i1 (by (first | ((try clear ht); (try clear hk); (try clear H); (try clear hall); grind) | grind))
  have hz : z + 1 = p + 1 - s := by (first | ((try clear ht); (try clear hk); (try clear H); (try clear hall); grind) | grind)
  have hzr : 0 ≤ z ∧ z ≤ 1200 := by (first | ((try clear ht); (try clear hk); (try clear H); (try clear hall); grind) | grind)
  have hzn := zNx hzr.1 hzr.2
  have hf : 0 ≤ g p.toNatClampNeg → g p.toNatClampNeg ≤ 127 → f p.toNatClampNeg = g p.toNatClampNeg := by
    have := ht p.toNatClampNeg
    (first | ((try clear ht); (try clear hk); (try clear H); (try clear hall); grind) | grind)
  have hkc := zKd_c (g p.toNatClampNeg)
  unfold fn_X10_addByte
  refine zw_if (fun c => ?_) (fun c => ?_)
  · refine zw_some ⟨by (first | ((try clear ht); (try clear hk); (try clear H); (try clear hall); grind) | grind), by (first | ((try clear ht); (try clear hk); (try clear H); (try clear hall); grind) | grind), hz, hall, fun _ => ⟨?_, fun _ => ?_⟩, fun q => ?_, fun q => ?_⟩
    · have := h3 c
      (first | ((try clear ht); (try clear hk); (try clear H); (try clear hall); grind) | grind)
    · have := h3 c
      have : p = s := by (first | ((try clear ht); (try clear hk); (try clear H); (try clear hall); grind) | grind)
      rw [this]
    · exact absurd (q.symm.trans c) (by decide)
    · exact absurd (q.symm.trans c) (by decide)
  refine zw_zj (fun _ => k = 1 → 6 < z + 1) (fun s_2 hs2 => ?_) (fun j_2 hj2 => ?_)
  · refine zw_if (fun d => ?_) (fun d => ?_)
    · refine zw_if (fun e => ?_) (fun e => ?_)
      · refine zw_some ⟨by (first | ((try clear ht); (try clear hk); (try clear H); (try clear hall); (try clear hj2); grind) | grind), by (first | ((try clear ht); (try clear hk); (try clear H); (try clear hall); (try clear hj2); grind) | grind), hz, hall, fun q => absurd q c, fun q => absurd (q.symm.trans d) (by decide), fun _ q => absurd q (by (first | ((try clear ht); (try clear hk); (try clear H); (try clear hall); (try clear hj2); grind) | grind))⟩
      · refine zw_some ⟨by (first | ((try clear ht); (try clear hk); (try clear H); (try clear hall); (try clear hj2); grind) | grind), by (first | ((try clear ht); (try clear hk); (try clear H); (try clear hall); (try clear hj2); grind) | grind), hz, hall, fun q => absurd q c, fun q => absurd (q.symm.trans d) (by decide), fun _ _ => ?_⟩
        have hz7 : z ≤ 7 := by (first | ((try clear ht); (try clear hk); (try clear H); (try clear hall); (try clear hj2); grind) | grind)
        have h8 := H7 d (by (first | ((try clear ht); (try clear hk); (try clear H); (try clear hall); (try clear hj2); grind) | grind))
        have hb := zDV_b (g := g) (s := s.toNatClampNeg) z.toNatClampNeg (fun i hi => zKd2 (by
          rw [H3] at hi
          rw [← d]
          exact zRun_l hs H1 H2 hn H4 i hi))
        have hz7' : z.toNatClampNeg ≤ 7 := zcl z 7 7 (by decide) hz7
        have hp7 := zp10 hz7'
        rw [show (10 : Int) ^ 7 = 10000000 by decide] at hp7
        have hc := hf (by (first | ((try clear ht); (try clear hk); (try clear H); (try clear hall); (try clear hj2); (try clear hb); grind) | grind)) (by (first | ((try clear ht); (try clear hk); (try clear H); (try clear hall); (try clear hj2); (try clear hb); grind) | grind))
        have hk2 := zKd2 (hk.trans d)
        have q1 := zo_mul (x := v) (y := 10) (z := v * 10) rfl h8 (by decide +kernel : (10 : Int32).toInt = 10) (by omega)
        have q2 := zo_add (x := v * 10) (y := f p.toNatClampNeg) (z := v * 10 + f p.toNatClampNeg) rfl q1 (by rw [hc]) (by omega)
        have q3 := zo_sub (x := v * 10 + f p.toNatClampNeg) (y := 48) (z := v * 10 + f p.toNatClampNeg - 48) rfl q2 (by decide +kernel : (48 : Int32).toInt = 48) (by omega)
        rw [q3, hzn]
        show _ = zDV g s.toNatClampNeg z.toNatClampNeg * 10 + ((g (s.toNatClampNeg + z.toNatClampNeg)).toInt - 48)
        rw [show s.toNatClampNeg + z.toNatClampNeg = p.toNatClampNeg by rw [H3]; exact a1]
        omega
    · refine zw_some ⟨by (first | ((try clear ht); (try clear hk); (try clear H); (try clear hall); (try clear hj2); (try clear hb); grind) | grind), by (first | ((try clear ht); (try clear hk); (try clear H); (try clear hall); (try clear hj2); (try clear hb); grind) | grind), hz, hall, fun q => absurd q c, fun q => ?_, fun q => absurd q d⟩
      have := hs2 q
      intro q2
      exact absurd q2 (by (first | ((try clear ht); (try clear hk); (try clear H); (try clear hall); (try clear hj2); (try clear hb); grind) | grind))
  refine zw_if (fun d => ?_) (fun d => hj2 () (fun q => absurd q d))
  refine zw_if (fun e => hj2 () (fun _ => e)) (fun e => ?_)
  refine zw_some ⟨by (first | ((try clear ht); (try clear hk); (try clear H); (try clear hall); (try clear hj2); (try clear hb); grind) | grind), by (first | ((try clear ht); (try clear hk); (try clear H); (try clear hall); (try clear hj2); (try clear hb); grind) | grind), hz, hall, fun q => absurd q c, fun _ _ => ?_, fun q => absurd (q.symm.trans d) (by decide)⟩
  have hz5 : z ≤ 5 := by (first | ((try clear ht); (try clear hk); (try clear H); (try clear hall); (try clear hj2); (try clear hb); grind) | grind)
  have hz5' : z.toNatClampNeg ≤ 5 := zcl z 5 5 (by decide) hz5
  have hc := hf (by (first | ((try clear ht); (try clear hk); (try clear H); (try clear hall); (try clear hj2); (try clear hb); grind) | grind)) (by (first | ((try clear ht); (try clear hk); (try clear H); (try clear hall); (try clear hj2); (try clear hb); grind) | grind))
  have hzi : z.toInt = (z.toNatClampNeg : Int) := by rw [H3]; exact a2.symm
  have e1 := zo_add (x := z) (y := 1) (z := z + 1) rfl hzi zi_1' (by omega)
  rw [hzn]
  refine zLet z.toNatClampNeg (by omega) (H6 d (by (first | ((try clear ht); (try clear hk); (try clear H); (try clear hall); (try clear hj2); (try clear hb); grind) | grind))) (fun i hi => zKd1 (by
    rw [H3] at hi
    rw [← d]
    exact zRun_l hs H1 H2 hn H4 i hi)) ?_ ?_ e1
  · rw [show s.toNatClampNeg + z.toNatClampNeg = p.toNatClampNeg by rw [H3]; exact a1]
    exact hc
  · rw [hc]
    exact zKd1 (hk.trans d)
set_option maxHeartbeats 2000000 in
theorem zAdv {n a k0 : Int32} {f g own : Nat → Int32} (hn : n ≤ 1200) (ha : 0 ≤ a ∧ a ≤ n) (ht : zTp f g) (ho : ∀ w : Nat, w < 13 → own w = zOwT w) (hk : (k0 = 1 ∨ k0 = 2) ↔ (zK n g (a - 1) = 1 ∨ zK n g (a - 1) = 2)) : zw (fn_X10_advance n a k0 f own) (fun r => zTok n f g a r.1 r.2.1 r.2.2.1 r.2.2.2.1 r.2.2.2.2) := by
  unfold fn_X10_advance
  simp only [zKd_fn, zb_some]
  refine zw_zj (fun s_1 => ¬ s_1 = 0 ↔ (zK n g (a - 1) = 1 ∨ zK n g (a - 1) = 2)) (fun s_1 hs1 => ?_) (fun j_1 hj1 => ?_)
  · refine zw_zl32 (fun s_2 => a ≤ s_2 ∧ s_2 ≤ n ∧ (∀ i : Int32, a ≤ i → i < s_2 → zK n g i = 5)) (fun s_2 => n - s_2) ⟨by (first | ((try clear ht); (try clear ho); (try clear hj1); grind) | grind), ha.2, fun i h1 h2 => by (first | ((try clear ht); (try clear ho); (try clear hj1); grind) | grind)⟩ (by (try dsimp only); (first | ((try clear ht); (try clear ho); (try clear hj1); grind) | grind)) (fun s_2 back_2 H2 h2 => ?_)
    obtain ⟨G1, G2, G3⟩ := H2
    have hs0 : 0 ≤ s_2 := by (first | ((try clear ht); (try clear ho); (try clear hj1); (try clear h2); grind) | grind)
    refine zw_zj (fun _ => ¬ zK n g s_2 = 5) (fun s_3 hs3 => ?_) (fun j_3 hj3 => ?_)
    · have hsk : zSk n g a s_2 := ⟨G1, G3, hs3⟩
      refine zw_zj (fun s_4 => s_4 = zK n g s_2) (fun s_4 hs4 => ?_) (fun j_4 hj4 => ?_)
      · refine zw_zl32 (fun s_5 => zRd n f g s_4 s_2 s_5.1 s_5.2.1 s_5.2.2) (fun s_5 => n - s_5.2.1) (zRd_0 G2) (by (try dsimp only); (first | ((try clear ht); (try clear ho); (try clear hj1); (try clear h2); (try clear hj3); (try clear hj4); grind) | grind)) (fun s_5 back_5 H5 h5 => ?_)
        obtain ⟨z, p, v⟩ := s_5
        dsimp only at H5 h5 ⊢
        have H5' := H5
        obtain ⟨D1, D2, D3, D4, D5, D6, D7⟩ := H5
        refine zw_zj (fun _ => ¬ zK n g p = s_4 ∨ s_4 = 3 ∧ ¬ z = 0 ∨ n ≤ p) (fun s_6 hs6 => ?_) (fun j_6 hj6 => ?_)
        · -- behind the run
          have hfin : ∀ K : Int32, (K = s_4 ∧ ¬ (zJn n g a s_2 ∧ (s_4 = 1 ∨ s_4 = 2)) ∧ (s_4 = 1 → z ≤ 6) ∧ (s_4 = 2 → z ≤ 8) ∨ K = 4 ∧ (s_4 = 1 ∧ (zJn n g a s_2 ∨ 6 < z) ∨ s_4 = 2 ∧ (zJn n g a s_2 ∨ 8 < z))) → ∀ o : Int32, (K = 1 → zOwS v o) → (¬ K = 1 → o = (-1)) → zTok n f g a p K s_2 v o := by
            intro K hK o o1 o2
            have hzz : zSz s_2 p = z.toNatClampNeg := by unfold zSz; rw [D3]
            have hrun : s_4 = 1 ∨ s_4 = 2 → zRun n g s_4 s_2 p := by
              intro q
              refine ⟨D1, D4, ?_⟩
              rcases hs6 with q1 | q1 | q1
              · exact q1
              · (first | ((try clear ht); (try clear ho); (try clear hj1); (try clear h2); (try clear hj3); (try clear hj4); (try clear h5); (try clear hj6); (try clear hfin); grind) | grind)
              · rw [zK_end q1]
                (first | ((try clear ht); (try clear ho); (try clear hj1); (try clear h2); (try clear hj3); (try clear hj4); (try clear h5); (try clear hj6); (try clear hfin); grind) | grind)
            refine ⟨hsk, D1, D2, ?_⟩
            by_cases c0 : s_4 = 0
            · have e0 : n ≤ s_2 := by
                by_cases q : n ≤ s_2
                · exact q
                · have := zKd_c (g s_2.toNatClampNeg)
                  rw [← zK_at (n := n) hs0 (by (first | ((try clear ht); (try clear ho); (try clear hj1); (try clear h2); (try clear hj3); (try clear hj4); (try clear h5); (try clear hj6); (try clear hfin); grind) | grind)), ← hs4] at this
                  (first | ((try clear ht); (try clear ho); (try clear hj1); (try clear h2); (try clear hj3); (try clear hj4); (try clear h5); (try clear hj6); (try clear hfin); grind) | grind)
              exact Or.inl ⟨by rw [← hs4]; exact c0, by (first | ((try clear ht); (try clear ho); (try clear hj1); (try clear h2); (try clear hj3); (try clear hj4); (try clear h5); (try clear hj6); (try clear hfin); grind) | grind), by (first | ((try clear ht); (try clear ho); (try clear hj1); (try clear h2); (try clear hj3); (try clear hj4); (try clear h5); (try clear hj6); (try clear hfin); grind) | grind), o2 (by (first | ((try clear ht); (try clear ho); (try clear hj1); (try clear h2); (try clear hj3); (try clear hj4); (try clear h5); (try clear hj6); (try clear hfin); grind) | grind))⟩
            by_cases c3 : s_4 = 3
            · have hin := zK_in (n := n) (g := g) (i := s_2) (by rw [← hs4]; exact c0)
              have hz1 : z = 1 := by
                have := (D5 c3).1
                by_cases q : z = 0
                · have qp : p = s_2 := by (first | ((try clear ht); (try clear ho); (try clear hj1); (try clear h2); (try clear hj3); (try clear hj4); (try clear h5); (try clear hj6); (try clear hfin); grind) | grind)
                  rcases hs6 with q1 | q1 | q1
                  · rw [qp] at q1; exact absurd hs4.symm q1
                  · exact absurd q q1.2
                  · (first | ((try clear ht); (try clear ho); (try clear hj1); (try clear h2); (try clear hj3); (try clear hj4); (try clear h5); (try clear hj6); (try clear hfin); grind) | grind)
                · (first | ((try clear ht); (try clear ho); (try clear hj1); (try clear h2); (try clear hj3); (try clear hj4); (try clear h5); (try clear hj6); (try clear hfin); grind) | grind)
              refine Or.inr (Or.inl ⟨by rw [← hs4]; exact c3, by (first | ((try clear ht); (try clear ho); (try clear hj1); (try clear h2); (try clear hj3); (try clear hj4); (try clear h5); (try clear hj6); (try clear hfin); grind) | grind), by (first | ((try clear ht); (try clear ho); (try clear hj1); (try clear h2); (try clear hj3); (try clear hj4); (try clear h5); (try clear hj6); (try clear hfin); grind) | grind), (D5 c3).2 hz1, o2 (by (first | ((try clear ht); (try clear ho); (try clear hj1); (try clear h2); (try clear hj3); (try clear hj4); (try clear h5); (try clear hj6); (try clear hfin); grind) | grind))⟩)
            by_cases c1 : s_4 = 1
            · have hr := hrun (Or.inl c1)
              rw [c1] at hr
              have e1 : zK n g s_2 = 1 := by rw [← hs4]; exact c1
              rcases hK with ⟨q1, q2, q3, q4⟩ | ⟨q1, q2⟩
              · refine Or.inr (Or.inr (Or.inr (Or.inl ⟨e1, hr, fun q => q2 ⟨q, Or.inl c1⟩, by have := q3 c1; (first | ((try clear ht); (try clear ho); (try clear hj1); (try clear h2); (try clear hj3); (try clear hj4); (try clear h5); (try clear hj6); (try clear hfin); grind) | grind), by (first | ((try clear ht); (try clear ho); (try clear hj1); (try clear h2); (try clear hj3); (try clear hj4); (try clear h5); (try clear hj6); (try clear hfin); grind) | grind), ?_, o1 (by (first | ((try clear ht); (try clear ho); (try clear hj1); (try clear h2); (try clear hj3); (try clear hj4); (try clear h5); (try clear hj6); (try clear hfin); grind) | grind))⟩)))
                rw [hzz]
                exact D6 c1 (q3 c1)
              · refine Or.inr (Or.inr (Or.inl ⟨e1, hr, ?_, q1, o2 (by (first | ((try clear ht); (try clear ho); (try clear hj1); (try clear h2); (try clear hj3); (try clear hj4); (try clear h5); (try clear hj6); (try clear hfin); grind) | grind))⟩))
                rcases q2 with ⟨_, q2 | q2⟩ | ⟨q2, _⟩
                · exact Or.inl q2
                · exact Or.inr (by (first | ((try clear ht); (try clear ho); (try clear hj1); (try clear h2); (try clear hj3); (try clear hj4); (try clear h5); (try clear hj6); (try clear hfin); grind) | grind))
                · exact absurd (c1.symm.trans q2) (by decide)
            by_cases c2 : s_4 = 2
            · have hr := hrun (Or.inr c2)
              rw [c2] at hr
              have e1 : zK n g s_2 = 2 := by rw [← hs4]; exact c2
              rcases hK with ⟨q1, q2, q3, q4⟩ | ⟨q1, q2⟩
              · refine Or.inr (Or.inr (Or.inr (Or.inr (Or.inr ⟨e1, hr, fun q => q2 ⟨q, Or.inr c2⟩, by have := q4 c2; (first | ((try clear ht); (try clear ho); (try clear hj1); (try clear h2); (try clear hj3); (try clear hj4); (try clear h5); (try clear hj6); (try clear hfin); grind) | grind), by (first | ((try clear ht); (try clear ho); (try clear hj1); (try clear h2); (try clear hj3); (try clear hj4); (try clear h5); (try clear hj6); (try clear hfin); grind) | grind), ?_, o2 (by (first | ((try clear ht); (try clear ho); (try clear hj1); (try clear h2); (try clear hj3); (try clear hj4); (try clear h5); (try clear hj6); (try clear hfin); grind) | grind))⟩))))
                rw [hzz]
                exact D7 c2 (q4 c2)
              · refine Or.inr (Or.inr (Or.inr (Or.inr (Or.inl ⟨e1, hr, ?_, q1, o2 (by (first | ((try clear ht); (try clear ho); (try clear hj1); (try clear h2); (try clear hj3); (try clear hj4); (try clear h5); (try clear hj6); (try clear hfin); grind) | grind))⟩))))
                rcases q2 with ⟨q2, _⟩ | ⟨_, q2 | q2⟩
                · exact absurd (c2.symm.trans q2) (by decide)
                · exact Or.inl q2
                · exact Or.inr (by (first | ((try clear ht); (try clear ho); (try clear hj1); (try clear h2); (try clear hj3); (try clear hj4); (try clear h5); (try clear hj6); (try clear hfin); grind) | grind))
            · exfalso
              have hin := zK_in (n := n) (g := g) (i := s_2) (by rw [← hs4]; exact c0)
              have := zKd_c (g s_2.toNatClampNeg)
              rw [← zK_at (n := n) hin.1 hin.2, ← hs4] at this
              rw [← hs4] at hs3
              (first | ((try clear ht); (try clear ho); (try clear hj1); (try clear h2); (try clear hj3); (try clear hj4); (try clear h5); (try clear hj6); (try clear hfin); grind) | grind)
          refine zw_zj (fun s_7 => ¬ s_7 = 0 ↔ (zJn n g a s_2 ∧ (s_4 = 1 ∨ s_4 = 2))) (fun s_7 hs7 => ?_) (fun j_7 hj7 => ?_)
          · refine zw_zj (fun s_8 => s_8 = s_4 ∧ ¬ (zJn n g a s_2 ∧ (s_4 = 1 ∨ s_4 = 2)) ∧ (s_4 = 1 → z ≤ 6) ∧ (s_4 = 2 → z ≤ 8) ∨ s_8 = 4 ∧ (s_4 = 1 ∧ (zJn n g a s_2 ∨ 6 < z) ∨ s_4 = 2 ∧ (zJn n g a s_2 ∨ 8 < z))) (fun s_8 hs8 => ?_) (fun j_8 hj8 => ?_)
            · refine zw_if (fun c => ?_) (fun c => ?_)
              · refine zw_zb0 (zFind ho) (fun o ho => ?_)
                exact zw_some (hfin s_8 hs8 o (fun _ => ho) (fun q => absurd c q))
              · exact zw_some (hfin s_8 hs8 (-1) (fun q => absurd q c) (fun _ => rfl))
            · refine zw_zj (fun _ => s_4 = 1 ∧ (zJn n g a s_2 ∨ 6 < z) ∨ s_4 = 2 ∧ (zJn n g a s_2 ∨ 8 < z)) (fun s_14 hs14 => hj8 4 (Or.inr ⟨rfl, hs14⟩)) (fun j_14 hj14 => ?_)
              refine zw_if (fun c => ?_) (fun c => ?_)
              · have hno : ¬ (zJn n g a s_2 ∧ (s_4 = 1 ∨ s_4 = 2)) := fun q => hs7.mpr q c
                refine zw_zj (fun _ => s_4 = 1 → z ≤ 6) (fun s_16 hs16 => ?_) (fun j_16 hj16 => ?_)
                · refine zw_if (fun d => ?_) (fun d => ?_)
                  · refine zw_if (fun e => ?_) (fun e => ?_)
                    · exact hj8 _ (Or.inl ⟨rfl, hno, hs16, fun _ => e⟩)
                    · exact hj14 () (Or.inr ⟨d, Or.inr (by (first | ((try clear ht); (try clear ho); (try clear hj1); (try clear h2); (try clear hj3); (try clear hj4); (try clear h5); (try clear hj6); (try clear hfin); (try clear hj7); (try clear hj8); (try clear hj14); (try clear hj16); grind) | grind))⟩)
                  · exact hj8 _ (Or.inl ⟨rfl, hno, hs16, fun q => absurd q d⟩)
                · refine zw_if (fun d => ?_) (fun d => hj16 () (fun q => absurd q d))
                  refine zw_if (fun e => ?_) (fun e => hj16 () (fun _ => by (first | ((try clear ht); (try clear ho); (try clear hj1); (try clear h2); (try clear hj3); (try clear hj4); (try clear h5); (try clear hj6); (try clear hfin); (try clear hj7); (try clear hj8); (try clear hj14); (try clear hj16); grind) | grind)))
                  exact hj14 () (Or.inl ⟨d, Or.inr e⟩)
              · have hy := hs7.mp c
                refine hj14 () ?_
                rcases hy.2 with q | q
                · exact Or.inl ⟨q, Or.inl hy.1⟩
                · exact Or.inr ⟨q, Or.inl hy.1⟩
          · refine zw_zj (fun _ => ¬ (zJn n g a s_2 ∧ (s_4 = 1 ∨ s_4 = 2))) (fun s_21 hs21 => hj7 0 ⟨fun q => absurd rfl q, fun q => absurd q hs21⟩) (fun j_21 hj21 => ?_)
            refine zw_if (fun c => hj21 () (fun q => ?_)) (fun c => ?_)
            · exact hs1.mpr q.1.2 c
            refine zw_if (fun d => ?_) (fun d => hj21 () (fun q => d q.1.1))
            have hjn : zJn n g a s_2 := ⟨d, hs1.mp c⟩
            refine zw_zj (fun _ => s_4 = 1 ∨ s_4 = 2) (fun s_24 hs24 => hj7 1 ⟨fun _ => ⟨hjn, hs24⟩, fun _ => by decide⟩) (fun j_24 hj24 => ?_)
            refine zw_if (fun e => hj24 () (Or.inl e)) (fun e => ?_)
            refine zw_if (fun e2 => hj24 () (Or.inr e2)) (fun e2 => hj21 () (fun q => by (first | ((try clear ht); (try clear ho); (try clear hj1); (try clear h2); (try clear hj3); (try clear hj4); (try clear h5); (try clear hj6); (try clear hfin); (try clear hj7); (try clear hj8); (try clear hj14); (try clear hj16); (try clear hj21); (try clear hj24); grind) | grind)))
        · -- one byte more
          refine zw_if (fun c => hj6 () (Or.inr (Or.inr c))) (fun c => ?_)
          have hp0 : 0 ≤ p := by (first | ((try clear ht); (try clear ho); (try clear hj1); (try clear h2); (try clear hj3); (try clear hj4); (try clear h5); (try clear hj6); (try clear hfin); (try clear hj7); (try clear hj8); (try clear hj14); (try clear hj16); (try clear hj21); (try clear hj24); grind) | grind)
          refine zw_zg32 1200 (by decide) (by (first | ((try clear ht); (try clear ho); (try clear hj1); (try clear h2); (try clear hj3); (try clear hj4); (try clear h5); (try clear hj6); (try clear hfin); (try clear hj7); (try clear hj8); (try clear hj14); (try clear hj16); (try clear hj21); (try clear hj24); grind) | grind)) ?_
          have hkf := zTp_kd ht p.toNatClampNeg
          have hkp := zK_at (n := n) (g := g) hp0 (by (first | ((try clear ht); (try clear ho); (try clear hj1); (try clear h2); (try clear hj3); (try clear hj4); (try clear h5); (try clear hj6); (try clear hfin); (try clear hj7); (try clear hj8); (try clear hj14); (try clear hj16); (try clear hj21); (try clear hj24); grind) | grind))
          refine zw_if (fun d => ?_) (fun d => hj6 () (Or.inl (by rw [hkp, ← hkf]; exact d)))
          refine zw_zj (fun _ => s_4 = 3 → z = 0) (fun s_34 hs34 => ?_) (fun j_34 hj34 => ?_)
          · refine zw_zg32 1200 (by decide) (by (first | ((try clear ht); (try clear ho); (try clear hj1); (try clear h2); (try clear hj3); (try clear hj4); (try clear h5); (try clear hj6); (try clear hfin); (try clear hj7); (try clear hj8); (try clear hj14); (try clear hj16); (try clear hj21); (try clear hj24); (try clear hj34); grind) | grind)) ?_
            refine zw_zb0 (zRd_s hn hs0 ht (by (first | ((try clear ht); (try clear ho); (try clear hj1); (try clear h2); (try clear hj3); (try clear hj4); (try clear h5); (try clear hj6); (try clear hfin); (try clear hj7); (try clear hj8); (try clear hj14); (try clear hj16); (try clear hj21); (try clear hj24); (try clear hj34); grind) | grind)) (by rw [← hkf]; exact d) hs34 H5') (fun o ho => ?_)
            exact h5 (z + 1, p + 1, o) ho (by (try dsimp only); (first | ((try clear ht); (try clear ho); (try clear hj1); (try clear h2); (try clear hj3); (try clear hj4); (try clear h5); (try clear hj6); (try clear hfin); (try clear hj7); (try clear hj8); (try clear hj14); (try clear hj16); (try clear hj21); (try clear hj24); (try clear hj34); grind) | grind)) (by (try dsimp only); (first | ((try clear ht); (try clear ho); (try clear hj1); (try clear h2); (try clear hj3); (try clear hj4); (try clear h5); (try clear hj6); (try clear hfin); (try clear hj7); (try clear hj8); (try clear hj14); (try clear hj16); (try clear hj21); (try clear hj24); (try clear hj34); grind) | grind))
          · refine zw_if (fun e => ?_) (fun e => hj34 () (fun q => absurd q e))
            refine zw_if (fun e2 => hj34 () (fun _ => e2)) (fun e2 => hj6 () (Or.inr (Or.inl ⟨e, e2⟩)))
      · refine zw_if (fun c => hj4 0 (zK_end c).symm) (fun c => ?_)
        refine zw_zg32 1200 (by decide) (by (first | ((try clear ht); (try clear ho); (try clear hj1); (try clear h2); (try clear hj3); (try clear hj4); (try clear h5); (try clear hj6); (try clear hfin); (try clear hj7); (try clear hj8); (try clear hj14); (try clear hj16); (try clear hj21); (try clear hj24); (try clear hj34); grind) | grind)) ?_
        exact hj4 _ (by rw [zK_at hs0 (by (first | ((try clear ht); (try clear ho); (try clear hj1); (try clear h2); (try clear hj3); (try clear hj4); (try clear h5); (try clear hj6); (try clear hfin); (try clear hj7); (try clear hj8); (try clear hj14); (try clear hj16); (try clear hj21); (try clear hj24); (try clear hj34); grind) | grind))]; exact zTp_kd ht _)
    · refine zw_if (fun c => hj3 () (by rw [zK_end c]; decide)) (fun c => ?_)
      refine zw_zg32 1200 (by decide) (by (first | ((try clear ht); (try clear ho); (try clear hj1); (try clear h2); (try clear hj3); (try clear hj4); (try clear h5); (try clear hj6); (try clear hfin); (try clear hj7); (try clear hj8); (try clear hj14); (try clear hj16); (try clear hj21); (try clear hj24); (try clear hj34); grind) | grind)) ?_
      have hkf := zTp_kd ht s_2.toNatClampNeg
      have hkp := zK_at (n := n) (g := g) hs0 (by (first | ((try clear ht); (try clear ho); (try clear hj1); (try clear h2); (try clear hj3); (try clear hj4); (try clear h5); (try clear hj6); (try clear hfin); (try clear hj7); (try clear hj8); (try clear hj14); (try clear hj16); (try clear hj21); (try clear hj24); (try clear hj34); grind) | grind))
      refine zw_if (fun d => ?_) (fun d => hj3 () (by rw [hkp, ← hkf]; exact d))
      refine h2 _ ⟨by (first | ((try clear ht); (try clear ho); (try clear hj1); (try clear h2); (try clear hj3); (try clear hj4); (try clear h5); (try clear hj6); (try clear hfin); (try clear hj7); (try clear hj8); (try clear hj14); (try clear hj16); (try clear hj21); (try clear hj24); (try clear hj34); grind) | grind), by (first | ((try clear ht); (try clear ho); (try clear hj1); (try clear h2); (try clear hj3); (try clear hj4); (try clear h5); (try clear hj6); (try clear hfin); (try clear hj7); (try clear hj8); (try clear hj14); (try clear hj16); (try clear hj21); (try clear hj24); (try clear hj34); grind) | grind), fun i i1 i2 => ?_⟩ (by (try dsimp only); (first | ((try clear ht); (try clear ho); (try clear hj1); (try clear h2); (try clear hj3); (try clear hj4); (try clear h5); (try clear hj6); (try clear hfin); (try clear hj7); (try clear hj8); (try clear hj14); (try clear hj16); (try clear hj21); (try clear hj24); (try clear hj34); grind) | grind)) (by (try dsimp only); (first | ((try clear ht); (try clear ho); (try clear hj1); (try clear h2); (try clear hj3); (try clear hj4); (try clear h5); (try clear hj6); (try clear hfin); (try clear hj7); (try clear hj8); (try clear hj14); (try clear hj16); (try clear hj21); (try clear hj24); (try clear hj34); grind) | grind))
      by_cases q : i = s_2
      · rw [q, hkp, ← hkf]; exact d
      · exact G3 i i1 (by (first | ((try clear ht); (try clear ho); (try clear hj1); (try clear h2); (try clear hj3); (try clear hj4); (try clear h5); (try clear hj6); (try clear hfin); (try clear hj7); (try clear hj8); (try clear hj14); (try clear hj16); (try clear hj21); (try clear hj24); (try clear hj34); grind) | grind))
  · refine zw_zj (fun _ => zK n g (a - 1) = 1 ∨ zK n g (a - 1) = 2) (fun s_55 hs55 => hj1 1 ⟨fun _ => hs55, fun _ => by decide⟩) (fun j_55 hj55 => ?_)
    refine zw_if (fun c => hj55 () (hk.mp (Or.inl c))) (fun c => ?_)
    refine zw_if (fun d => hj55 () (hk.mp (Or.inr d))) (fun d => ?_)
    exact hj1 0 ⟨fun q => absurd rfl q, fun q => by have := hk.mpr q; (first | ((try clear ht); (try clear ho); (try clear hj1); (try clear h2); (try clear hj3); (try clear hj4); (try clear h5); (try clear hj6); (try clear hfin); (try clear hj7); (try clear hj8); (try clear hj14); (try clear hj16); (try clear hj21); (try clear hj24); (try clear hj34); (try clear hj55); grind) | grind)⟩
/-! the reference's own words: a match with the table, from place k on -/
noncomputable def zMt (g : Nat → Int32) (s e k : Nat) : Prop := ∃ m : Nat, k + m < 71 ∧ zTab (k + m) = 0 ∧ s + m = e ∧ (∀ j : Nat, j < m → g (s + j) - 96 = zTab (k + j) ∧ ¬ zTab (k + j) = 0)
theorem zPair_un {n k k' : Int32} (h : zPair n k) (h' : zPair n k') : k = k' := by
  unfold zPair at h h'
  rcases h with ⟨a, e⟩ | ⟨a, e⟩ | ⟨a, e⟩ | ⟨a, e⟩ | ⟨a, e⟩ | ⟨a, e⟩ | ⟨a, e⟩ | ⟨a, e⟩ | ⟨a, e⟩ | ⟨a, e⟩ | ⟨a, e⟩ | ⟨a, e⟩ | ⟨a, e⟩ | ⟨a, e⟩ <;> (subst a; subst e; rcases h' with ⟨a, e⟩ | ⟨a, e⟩ | ⟨a, e⟩ | ⟨a, e⟩ | ⟨a, e⟩ | ⟨a, e⟩ | ⟨a, e⟩ | ⟨a, e⟩ | ⟨a, e⟩ | ⟨a, e⟩ | ⟨a, e⟩ | ⟨a, e⟩ | ⟨a, e⟩ | ⟨a, e⟩ <;> first | exact e.symm | exact absurd a (by decide))
theorem zAdd2 {x y : Int32} {n : Int} (hx : 0 ≤ x.toInt) (hy : 0 ≤ y.toInt) (hn : x.toInt + y.toInt ≤ n) (h : n ≤ 100000) : (x + y).toInt = x.toInt + y.toInt ∧ (x + y).toNatClampNeg = x.toNatClampNeg + y.toNatClampNeg := by
  have e := zo_add (x := x) (y := y) (z := x + y) rfl rfl rfl (by omega)
  refine ⟨e, ?_⟩
  show (x + y).toInt.toNat = x.toInt.toNat + y.toInt.toNat
  omega
theorem zi_b {x c : Int32} {n : Int} (hc : c.toInt = n) (h0 : 0 ≤ x) (h1 : x ≤ c) : 0 ≤ x.toInt ∧ x.toInt ≤ n := by
  have a := Int32.le_iff_toInt_le.mp h0
  have b := Int32.le_iff_toInt_le.mp h1
  rw [zi_0] at a
  omega
theorem z1200 : (1200 : Int32).toInt = 1200 := by decide +kernel
theorem z70 : (70 : Int32).toInt = 70 := by decide +kernel
set_option maxHeartbeats 1000000 in
theorem zOwnL {v0_6 v0_7 : Int32} {f1 f2 : Nat → Int32} (h_v0_6 : 0 ≤ v0_6 ∧ v0_6 ≤ 1200) (h_v0_7 : 0 ≤ v0_7 ∧ v0_7 ≤ 1200) (hT : (∀ k : Nat, k < 71 → f1 k = zTab k)) : zw (fn_X12_own v0_6 v0_7 f1 f2) (fun r => r = (-1) ∧ (∀ n k : Int32, zPair n k → 0 ≤ n → n ≤ 12 → ¬ zMt f2 v0_7.toNatClampNeg v0_6.toNatClampNeg k.toNatClampNeg) ∨ 0 ≤ r ∧ r ≤ 12 ∧ (∃ k : Int32, zPair r k ∧ zMt f2 v0_7.toNatClampNeg v0_6.toNatClampNeg k.toNatClampNeg)) := by
  obtain ⟨b6a, b6b⟩ := zi_b z1200 h_v0_6.1 h_v0_6.2
  obtain ⟨b7a, b7b⟩ := zi_b z1200 h_v0_7.1 h_v0_7.2
  unfold fn_X12_own
  refine zw_zl32 (fun s_1 => zPair s_1.2 s_1.1 ∧ 0 ≤ s_1.2 ∧ s_1.2 ≤ 13 ∧ (∀ n k : Int32, zPair n k → 0 ≤ n → n < s_1.2 → ¬ zMt f2 v0_7.toNatClampNeg v0_6.toNatClampNeg k.toNatClampNeg)) (fun s_1 => 13 - s_1.2) (by dsimp only; exact ⟨Or.inl ⟨rfl, rfl⟩, by decide, by decide, fun n k _ h1 h2 => by (first | ((try clear hT); grind) | grind)⟩) (by (try dsimp only); decide) (fun s_1 back_1 H1 h1 => ?_)
  obtain ⟨kk, nn⟩ := s_1
  dsimp only at H1 h1 ⊢
  obtain ⟨hpair, hn0, hn1, hno⟩ := H1
  refine zw_if (fun c1 => ?_) (fun c1 => ?_)
  · exact zw_some (Or.inl ⟨rfl, fun n k hp a b => hno n k hp a (by (first | ((try clear hT); (try clear h1); grind) | grind))⟩)
  obtain ⟨e, he0, he1, he2, he3, he4, he5⟩ := zTabW f1 hT nn kk hpair (by (first | ((try clear hT); (try clear h1); grind) | grind))
  obtain ⟨bk1, bk2⟩ := zi_b (x := kk) z70 he0 (by (first | ((try clear hT); (try clear h1); grind) | grind))
  have huniq : ∀ k : Int32, zPair nn k → k = kk := by
    intro k hk
    exact zPair_un hk hpair
  refine zw_zl32 (fun s_3 => 0 ≤ s_3 ∧ kk + s_3 ≤ e ∧ s_3 ≤ 70 ∧ (∀ j : Nat, (j : Int) < s_3.toInt → f2 (v0_7.toNatClampNeg + j) - 96 = zTab (kk.toNatClampNeg + j) ∧ ¬ zTab (kk.toNatClampNeg + j) = 0)) (fun s_3 => e - (kk + s_3)) ⟨by decide, by (first | ((try clear hT); (try clear h1); (try clear huniq); grind) | grind), by decide, fun j hj => by rw [zi_0] at hj; omega⟩ (by (try dsimp only); (first | ((try clear hT); (try clear h1); (try clear huniq); (try clear hj); grind) | grind)) (fun s_3 back_3 H3 h3 => ?_)
  obtain ⟨m0, m1, m2, m3⟩ := H3
  obtain ⟨bm1, bm2⟩ := zi_b (x := s_3) z70 m0 m2
  have hsum : kk.toInt + s_3.toInt ≤ 70 := by
    have q1 := zo_add (x := kk) (y := s_3) (z := kk + s_3) rfl rfl rfl (by omega)
    have q2 := Int32.le_iff_toInt_le.mp m1
    have q3 := Int32.le_iff_toInt_le.mp he2
    rw [z70] at q3
    omega
  obtain ⟨ks1, ks2⟩ := zAdd2 (x := kk) (y := s_3) bk1 bm1 hsum (by omega)
  obtain ⟨vs1, vs2⟩ := zAdd2 (x := v0_7) (y := s_3) (n := 1270) b7a bm1 (by omega) (by omega)
  have hks : f1 (kk + s_3).toNatClampNeg = zTab (kk.toNatClampNeg + s_3.toNatClampNeg) := by
    rw [ks2]
    refine hT _ ?_
    show kk.toInt.toNat + s_3.toInt.toNat < 71
    omega
  have hms : (s_3.toNatClampNeg : Int) = s_3.toInt := by
    show ((s_3.toInt.toNat : Nat) : Int) = _
    omega
  -- a loop that passes over the rest of this word
  have J : (¬ zMt f2 v0_7.toNatClampNeg v0_6.toNatClampNeg kk.toNatClampNeg) → zw (zl (fun (s_8 : Int32) back_8 => (zg s_8 71 (if (f1 s_8.toNatClampNeg) = 0 then (back_1 ((s_8 + 1), (nn + 1))) else (back_8 (s_8 + 1))))) 100000 kk) (fun r => r = (-1) ∧ (∀ n k : Int32, zPair n k → 0 ≤ n → n ≤ 12 → ¬ zMt f2 v0_7.toNatClampNeg v0_6.toNatClampNeg k.toNatClampNeg) ∨ 0 ≤ r ∧ r ≤ 12 ∧ (∃ k : Int32, zPair r k ∧ zMt f2 v0_7.toNatClampNeg v0_6.toNatClampNeg k.toNatClampNeg)) := by
    intro hnm
    refine zw_zl32 (fun s_8 => kk ≤ s_8 ∧ s_8 ≤ e) (fun s_8 => e - s_8) (by (try dsimp only); (first | ((try clear hT); (try clear h1); (try clear huniq); (try clear hj); (try clear h3); (try clear J); grind) | grind)) (by (try dsimp only); (first | ((try clear hT); (try clear h1); (try clear huniq); (try clear hj); (try clear h3); (try clear J); grind) | grind)) (fun s_8 back_8 H8 h8 => ?_)
    refine zw_zg32 71 (by decide) (by (first | ((try clear hT); (try clear h1); (try clear huniq); (try clear hj); (try clear h3); (try clear J); (try clear h8); grind) | grind)) ?_
    refine zw_if (fun c2 => ?_) (fun c2 => ?_)
    · have hq : s_8 = e := by (first | ((try clear hT); (try clear h1); (try clear huniq); (try clear hj); (try clear h3); (try clear J); (try clear h8); grind) | grind)
      rw [hq]
      refine h1 _ ⟨he5, by (try dsimp only); (first | ((try clear hT); (try clear h1); (try clear huniq); (try clear hj); (try clear h3); (try clear J); (try clear h8); grind) | grind), by (try dsimp only); (first | ((try clear hT); (try clear h1); (try clear huniq); (try clear hj); (try clear h3); (try clear J); (try clear h8); grind) | grind), fun n k hp a b => ?_⟩ (by (try dsimp only); (first | ((try clear hT); (try clear h1); (try clear huniq); (try clear hj); (try clear h3); (try clear J); (try clear h8); grind) | grind)) (by (try dsimp only); (first | ((try clear hT); (try clear h1); (try clear huniq); (try clear hj); (try clear h3); (try clear J); (try clear h8); grind) | grind))
      by_cases q : n = nn
      · rw [q] at hp
        rw [huniq k hp]
        exact hnm
      · exact hno n k hp a (by dsimp only at b; (first | ((try clear hT); (try clear h1); (try clear huniq); (try clear hj); (try clear h3); (try clear J); (try clear h8); grind) | grind))
    · have hq : ¬ s_8 = e := by intro hq; rw [hq] at c2; exact c2 he3
      exact h8 _ (by (first | ((try clear hT); (try clear h1); (try clear huniq); (try clear hj); (try clear h3); (try clear J); (try clear h8); grind) | grind)) (by (first | ((try clear hT); (try clear h1); (try clear huniq); (try clear hj); (try clear h3); (try clear J); (try clear h8); grind) | grind)) (by (first | ((try clear hT); (try clear h1); (try clear huniq); (try clear hj); (try clear h3); (try clear J); (try clear h8); grind) | grind))
  refine zw_zg32 71 (by decide) (by (first | ((try clear hT); (try clear h1); (try clear huniq); (try clear hj); (try clear h3); (try clear J); (try clear h8); grind) | grind)) ?_
  refine zw_zj (fun _ => zTab (kk.toNatClampNeg + s_3.toNatClampNeg) = 0 ∨ v0_6.toNatClampNeg ≤ v0_7.toNatClampNeg + s_3.toNatClampNeg ∨ ¬ f2 (v0_7.toNatClampNeg + s_3.toNatClampNeg) - 96 = zTab (kk.toNatClampNeg + s_3.toNatClampNeg)) (fun s_5 hs5 => ?_) (fun j_5 hj5 => ?_)
  · refine zw_zg32 71 (by decide) (by (first | ((try clear hT); (try clear h1); (try clear huniq); (try clear hj); (try clear h3); (try clear J); (try clear h8); (try clear hj5); grind) | grind)) ?_
    have hex : ¬ (zTab (kk.toNatClampNeg + s_3.toNatClampNeg) = 0 ∧ v0_7.toNatClampNeg + s_3.toNatClampNeg = v0_6.toNatClampNeg) → ¬ zMt f2 v0_7.toNatClampNeg v0_6.toNatClampNeg kk.toNatClampNeg := by
      intro hq ⟨m, w1, w2, w3, w4⟩
      by_cases d1 : m < s_3.toNatClampNeg
      · exact (m3 m (by omega)).2 w2
      · by_cases d2 : m = s_3.toNatClampNeg
        · rw [d2] at w2 w3
          exact hq ⟨w2, w3⟩
        · have w5 := w4 s_3.toNatClampNeg (by omega)
          rcases hs5 with q | q | q
          · exact w5.2 q
          · omega
          · exact q w5.1
    refine zw_zj (fun _ => ¬ zMt f2 v0_7.toNatClampNeg v0_6.toNatClampNeg kk.toNatClampNeg) (fun s_7 hs7 => J hs7) (fun j_7 hj7 => ?_)
    refine zw_if (fun c3 => ?_) (fun c3 => hj7 _ (hex (fun q => c3 (hks.trans q.1))))
    refine zw_if (fun c4 => ?_) (fun c4 => hj7 _ (hex (fun q => c4 ?_)))
    · refine zw_some (Or.inr ⟨hn0, by (first | ((try clear hT); (try clear h1); (try clear huniq); (try clear hj); (try clear h3); (try clear J); (try clear h8); (try clear hj5); (try clear hj7); grind) | grind), kk, hpair, s_3.toNatClampNeg, ?_, hks.symm.trans c3, ?_, fun j hj => m3 j (by omega)⟩)
      · show kk.toInt.toNat + s_3.toInt.toNat < 71
        omega
      · rw [← vs2, c4]
    · apply Int32.toInt_inj.mp
      have := q.2
      have w1 : ((v0_6.toNatClampNeg : Nat) : Int) = v0_6.toInt := by
        show ((v0_6.toInt.toNat : Nat) : Int) = _
        omega
      have w2 : ((v0_7.toNatClampNeg : Nat) : Int) = v0_7.toInt := by
        show ((v0_7.toInt.toNat : Nat) : Int) = _
        omega
      omega
  refine zw_if (fun c3 => hj5 _ (Or.inl (hks.symm.trans c3))) (fun c3 => ?_)
  refine zw_if (fun c4 => hj5 _ (Or.inr (Or.inl ?_))) (fun c4 => ?_)
  · have := Int32.le_iff_toInt_le.mp c4
    show v0_6.toInt.toNat ≤ v0_7.toInt.toNat + s_3.toInt.toNat
    omega
  refine zw_zg32 1200 (by decide) (by (first | ((try clear hT); (try clear h1); (try clear huniq); (try clear hj); (try clear h3); (try clear J); (try clear h8); (try clear hj5); (try clear hj7); grind) | grind)) ?_
  rw [hks, vs2]
  refine zw_if (fun c5 => ?_) (fun c5 => hj5 _ (Or.inr (Or.inr c5)))
  have hq : ¬ kk + s_3 = e := by intro hq; rw [hq] at c3; exact c3 he3
  refine h3 _ ⟨by (first | ((try clear hT); (try clear h1); (try clear huniq); (try clear hj); (try clear h3); (try clear J); (try clear h8); (try clear hj5); (try clear hj7); grind) | grind), by (first | ((try clear hT); (try clear h1); (try clear huniq); (try clear hj); (try clear h3); (try clear J); (try clear h8); (try clear hj5); (try clear hj7); grind) | grind), by (first | ((try clear hT); (try clear h1); (try clear huniq); (try clear hj); (try clear h3); (try clear J); (try clear h8); (try clear hj5); (try clear hj7); grind) | grind), fun j hj => ?_⟩ (by (first | ((try clear hT); (try clear h1); (try clear huniq); (try clear hj); (try clear h3); (try clear J); (try clear h8); (try clear hj5); (try clear hj7); grind) | grind)) (by (first | ((try clear hT); (try clear h1); (try clear huniq); (try clear hj); (try clear h3); (try clear J); (try clear h8); (try clear hj5); (try clear hj7); grind) | grind))
  have e1 := zo_add (x := s_3) (y := 1) (z := s_3 + 1) rfl rfl zi_1' (by omega)
  rw [e1] at hj
  by_cases q : (j : Int) < s_3.toInt
  · exact m3 j q
  · have : j = s_3.toNatClampNeg := by omega
    rw [this]
    exact ⟨c5, fun q => c3 (hks.trans q)⟩
/-! a word is an own word just when its number is -/
theorem zCV_inj {l m : Nat → Int} (h : zCV l = zCV m) (h1 : ∀ i : Nat, 0 ≤ l i ∧ l i < 32) (h2 : ∀ i : Nat, 0 ≤ m i ∧ m i < 32) (i : Nat) (hi : i < 6) : l i = m i := by
  unfold zCV at h
  have a0 := h1 0
  have a1 := h1 1
  have a2 := h1 2
  have a3 := h1 3
  have a4 := h1 4
  have a5 := h1 5
  have b0 := h2 0
  have b1 := h2 1
  have b2 := h2 2
  have b3 := h2 3
  have b4 := h2 4
  have b5 := h2 5
  match i, hi with
  | 0, _ => omega
  | 1, _ => omega
  | 2, _ => omega
  | 3, _ => omega
  | 4, _ => omega
  | 5, _ => omega
noncomputable def zTL (k len i : Nat) : Int := if i < len then (zTab (k + i)).toInt else 0
theorem zLV_b {g : Nat → Int32} {s K : Nat} (hl : ∀ i : Nat, i < K → 97 ≤ (g (s + i)).toInt ∧ (g (s + i)).toInt ≤ 122) (i : Nat) : 0 ≤ zLV g s K i ∧ zLV g s K i < 32 := by
  unfold zLV
  split
  · have := hl i (by assumption)
    omega
  · omega
theorem zTL_b {k len : Nat} (h : ∀ i : Nat, i < len → 1 ≤ (zTab (k + i)).toInt ∧ (zTab (k + i)).toInt ≤ 26) (i : Nat) : 0 ≤ zTL k len i ∧ zTL k len i < 32 := by
  unfold zTL
  split
  · have := h i (by assumption)
    omega
  · omega
theorem zMt_v {g : Nat → Int32} {s e k len : Nat} (hlen : len ≤ 6) (ht : ∀ i : Nat, i < len → 1 ≤ (zTab (k + i)).toInt ∧ (zTab (k + i)).toInt ≤ 26) (hz : zTab (k + len) = 0) (hk : k + len < 71) (hse : s ≤ e) (hl : ∀ i : Nat, i < e - s → 97 ≤ (g (s + i)).toInt ∧ (g (s + i)).toInt ≤ 122) : zMt g s e k ↔ e - s ≤ 6 ∧ zCV (zLV g s (e - s)) = zCV (zTL k len) := by
  have hnz : ∀ i : Nat, i < len → ¬ zTab (k + i) = 0 := by
    intro i hi q
    have := (ht i hi).1
    rw [q] at this
    exact absurd this (by decide)
  have h96 : (96 : Int32).toInt = 96 := by decide +kernel
  constructor
  · intro ⟨m, w1, w2, w3, w4⟩
    have hm : m = len := by
      by_cases c : m < len
      · exact absurd w2 (hnz m c)
      · by_cases d : len < m
        · exact absurd hz (w4 len d).2
        · omega
    subst hm
    have hm2 : e - s = m := by omega
    refine ⟨by omega, ?_⟩
    have : zLV g s (e - s) = zTL k m := by
      funext i
      unfold zLV zTL
      rw [hm2]
      split
      · have q := (w4 i (by assumption)).1
        have q2 := hl i (by omega)
        rw [← q]
        have q3 := zo_sub (x := g (s + i)) (y := 96) (z := g (s + i) - 96) rfl rfl h96 (by omega)
        omega
      · rfl
    rw [this]
  · intro ⟨w1, w2⟩
    have hi := zCV_inj w2 (zLV_b hl) (zTL_b ht)
    have hm : e - s = len := by
      by_cases c : e - s < len
      · have := hi (e - s) (by omega)
        unfold zLV zTL at this
        rw [if_neg (by omega), if_pos c] at this
        have := ht _ c
        omega
      · by_cases d : len < e - s
        · have := hi len (by omega)
          unfold zLV zTL at this
          rw [if_pos d, if_neg (by omega)] at this
          have := hl _ d
          omega
        · omega
    refine ⟨len, hk, hz, by omega, fun j hj => ⟨?_, hnz j hj⟩⟩
    have q := hi j (by omega)
    unfold zLV zTL at q
    rw [if_pos (by omega), if_pos hj] at q
    have q2 := hl j (by omega)
    have q3 := zo_sub (x := g (s + j)) (y := 96) (z := g (s + j) - 96) rfl rfl h96 (by omega)
    apply Int32.toInt_inj.mp
    omega
noncomputable def zLenT (n : Nat) : Nat := ([6, 4, 4, 4, 4, 5, 3, 3, 3, 5, 5, 6, 6] : List Nat).getD n 0
noncomputable def zStT (n : Nat) : Nat := ([0, 7, 12, 17, 22, 27, 33, 37, 41, 45, 51, 57, 64] : List Nat).getD n 0
theorem zTabOk : ∀ n : Nat, n < 13 → zLenT n ≤ 6 ∧ zTab (zStT n + zLenT n) = 0 ∧ zStT n + zLenT n < 71 ∧ (∀ i : Nat, i < 6 → i < zLenT n → 1 ≤ (zTab (zStT n + i)).toInt ∧ (zTab (zStT n + i)).toInt ≤ 26) ∧ (zOwT n).toInt = zCV (zTL (zStT n) (zLenT n)) := by decide +kernel
theorem zPair_n {n k : Int32} (h : zPair n k) (h0 : 0 ≤ n) (h1 : n ≤ 12) : n.toNatClampNeg < 13 ∧ k.toNatClampNeg = zStT n.toNatClampNeg := by
  unfold zPair at h
  rcases h with ⟨rfl, rfl⟩ | ⟨rfl, rfl⟩ | ⟨rfl, rfl⟩ | ⟨rfl, rfl⟩ | ⟨rfl, rfl⟩ | ⟨rfl, rfl⟩ | ⟨rfl, rfl⟩ | ⟨rfl, rfl⟩ | ⟨rfl, rfl⟩ | ⟨rfl, rfl⟩ | ⟨rfl, rfl⟩ | ⟨rfl, rfl⟩ | ⟨rfl, rfl⟩ | ⟨rfl, rfl⟩
  all_goals first | decide +kernel | exact absurd h1 (by decide)
theorem zPair_of (w : Nat) (h : w < 13) : zPair (Int32.ofNat w) (Int32.ofNat (zStT w)) ∧ 0 ≤ Int32.ofNat w ∧ Int32.ofNat w ≤ 12 ∧ (Int32.ofNat (zStT w)).toNatClampNeg = zStT w := by
  unfold zPair
  match w, h with
  | 0, _ => decide +kernel
  | 1, _ => decide +kernel
  | 2, _ => decide +kernel
  | 3, _ => decide +kernel
  | 4, _ => decide +kernel
  | 5, _ => decide +kernel
  | 6, _ => decide +kernel
  | 7, _ => decide +kernel
  | 8, _ => decide +kernel
  | 9, _ => decide +kernel
  | 10, _ => decide +kernel
  | 11, _ => decide +kernel
  | 12, _ => decide +kernel
theorem zOwnM {e s : Int32} {tab g : Nat → Int32} (he : 0 ≤ e ∧ e ≤ 1200) (hs : 0 ≤ s ∧ s ≤ 1200) (hse : s ≤ e) (hT : (∀ k : Nat, k < 71 → tab k = zTab k)) (hl : ∀ i : Nat, i < zSz s e → zKd (g (s.toNatClampNeg + i)) = 1) : zw (fn_X12_own e s tab g) (fun r => (-1) ≤ r ∧ r ≤ 12 ∧ (6 < e - s → r = (-1)) ∧ (∀ v : Int32, e - s ≤ 6 → v.toInt = zCV (zLV g s.toNatClampNeg (zSz s e)) → zOwS v r)) := by
  obtain ⟨a1, a2, a3, a4, a5, a6⟩ := zAdN hs.1 hse he.2
  have hz : e.toNatClampNeg - s.toNatClampNeg = zSz s e := by unfold zSz; omega
  have h6 : e - s ≤ 6 ↔ zSz s e ≤ 6 := by
    rw [Int32.le_iff_toInt_le, show (6 : Int32).toInt = 6 by decide +kernel]
    unfold zSz
    omega
  have key : ∀ n : Nat, n < 13 → (zMt g s.toNatClampNeg e.toNatClampNeg (zStT n) ↔ zSz s e ≤ 6 ∧ zCV (zLV g s.toNatClampNeg (zSz s e)) = (zOwT n).toInt) := by
    intro n hn
    obtain ⟨t1, t2, t3, t4, t5⟩ := zTabOk n hn
    have := zMt_v (g := g) (s := s.toNatClampNeg) (e := e.toNatClampNeg) (k := zStT n) t1 (fun i hi => t4 i (by omega) hi) t2 t3 (by omega) (fun i hi => zKd1 (hl i (by omega)))
    rw [hz] at this
    rw [t5]
    exact this
  refine zw_mono (zOwnL he hs hT) (fun r hr => ?_)
  rcases hr with ⟨rfl, hr⟩ | ⟨r0, r1, k, hp, hm⟩
  · refine ⟨by decide, by decide, fun _ => rfl, fun v h1 h2 => Or.inl ⟨rfl, fun w hw q => ?_⟩⟩
    obtain ⟨p1, p2, p3, p4⟩ := zPair_of w hw
    refine hr _ _ p1 p2 p3 ?_
    rw [p4]
    exact (key w hw).mpr ⟨h6.mp h1, by rw [← h2, q]⟩
  · obtain ⟨p1, p2⟩ := zPair_n hp r0 r1
    rw [p2] at hm
    have hm2 := (key _ p1).mp hm
    refine ⟨by (first | ((try clear hT); (try clear hl); (try clear key); grind) | grind), r1, fun q => ?_, fun v h1 h2 => Or.inr ⟨r0, by (first | ((try clear hT); (try clear hl); (try clear key); grind) | grind), ?_⟩⟩
    · have := h6.mpr hm2.1
      (first | ((try clear hT); (try clear hl); (try clear key); grind) | grind)
    · apply Int32.toInt_inj.mp
      rw [h2]
      exact hm2.2.symm
theorem zOwS_un {v o p : Int32} (h1 : zOwS v o) (h2 : zOwS v p) : o = p := by
  have hinj : ∀ w : Nat, w < 13 → ∀ x : Nat, x < 13 → zOwT w = zOwT x → w = x := by decide +kernel
  have hb : ∀ x : Int32, 0 ≤ x → x < 13 → x.toNatClampNeg < 13 := by
    intro x h0 h1
    have := zcl x 12 12 (by decide) (by (first | ((try clear h2); (try clear hinj); (try clear hb); grind) | grind))
    omega
  rcases h1 with ⟨a1, a2⟩ | ⟨a1, a2, a3⟩
  · rcases h2 with ⟨b1, b2⟩ | ⟨b1, b2, b3⟩
    · rw [a1, b1]
    · exact absurd b3 (a2 _ (hb _ b1 b2))
  · rcases h2 with ⟨b1, b2⟩ | ⟨b1, b2, b3⟩
    · exact absurd a3 (b2 _ (hb _ a1 a2))
    · exact zinj o p a1 b1 (hinj _ (hb _ a1 a2) _ (hb _ b1 b2) (a3.trans b3.symm))
/-! the reference's reading, by the class's next word -/
theorem zFl_0 (p q wa : Int32) : fn_X12_faults p q 0 wa = some (p, q) := by
  unfold fn_X12_faults
  rw [if_pos rfl]
theorem zFl_n {w : Int32} (hw : ¬ w = 0) (p q wa : Int32) : fn_X12_faults p q w wa = some (w, wa) := by
  unfold fn_X12_faults
  rw [if_neg hw]
theorem zGw_n {w : Int32} (hw : ¬ w = 0) : fn_X12_goesWell w = some 0 := by
  unfold fn_X12_goesWell
  rw [if_neg hw]
theorem zGw_0 : fn_X12_goesWell 0 = some 1 := rfl
theorem zl_1 {σ ρ : Type} (B : σ → (σ → Option ρ) → Option ρ) (s : σ) : zl B 100000 s = B s (zl B 99999) := rfl
theorem zTok_b {n a e k s v o : Int32} {f g : Nat → Int32} (ha : 0 ≤ a ∧ a ≤ n) (T : zTok n f g a e k s v o) : 0 ≤ s ∧ s ≤ n ∧ s ≤ e ∧ e ≤ n := by
  obtain ⟨t1, t2, t3, _⟩ := T
  have := zSk_le t1 ha.2
  have := t1.1
  (first | ((try clear T); grind) | grind)
noncomputable def zIsW (n : Int32) (g : Nat → Int32) (a s : Int32) : Prop := zK n g s = 1 ∧ ¬ zJn n g a s
theorem zTok_w {n a e k s v o : Int32} {f g : Nat → Int32} (T : zTok n f g a e k s v o) (h : zIsW n g a s) : zRun n g 1 s e ∧ (k = 1 ∧ e - s ≤ 6 ∧ v.toInt = zCV (zLV g s.toNatClampNeg (zSz s e)) ∧ zOwS v o ∨ k = 4 ∧ 6 < e - s) := by
  obtain ⟨h1, h2⟩ := h
  obtain ⟨_, _, _, T⟩ := T
  rcases T with T | T | T | T | T | T
  · (first | ((try clear h); grind) | grind)
  · (first | ((try clear h); grind) | grind)
  · obtain ⟨t1, t2, t3, t4, t5⟩ := T
    refine ⟨t2, Or.inr ⟨t4, ?_⟩⟩
    rcases t3 with q | q
    · exact absurd q h2
    · exact q
  · obtain ⟨t1, t2, t3, t4, t5, t6, t7⟩ := T
    exact ⟨t2, Or.inl ⟨t5, t4, t6, t7⟩⟩
  · (first | ((try clear h); grind) | grind)
  · (first | ((try clear h); grind) | grind)
theorem zTok_k1 {n a e k s v o : Int32} {f g : Nat → Int32} (T : zTok n f g a e k s v o) (h : k = 1) : zIsW n g a s := by
  obtain ⟨_, _, _, T⟩ := T
  subst h
  rcases T with T | T | T | T | T | T
  · exact absurd T.2.2.1 (by decide)
  · exact absurd T.2.2.1 (by decide)
  · exact absurd T.2.2.2.1 (by decide)
  · exact ⟨T.1, T.2.2.1⟩
  · exact absurd T.2.2.2.1 (by decide)
  · exact absurd T.2.2.2.2.1 (by decide)
/-- what stands ahead of the next word, once this one is passed -/
theorem zTok_nx {n a e k s v o : Int32} {f g : Nat → Int32} (hn : n ≤ 1200) (ha : 0 ≤ a ∧ a ≤ n) (T : zTok n f g a e k s v o) (hk : k = 1 ∨ k = 2 ∨ k = 3) : (0 ≤ e ∧ e ≤ n) ∧ ((k = 1 ∨ k = 2) ↔ (zK n g (e - 1) = 1 ∨ zK n g (e - 1) = 2)) := by
  have hb := zTok_b ha T
  refine ⟨by (first | ((try clear T); (try clear hb); grind) | grind), ?_⟩
  obtain ⟨_, _, _, T⟩ := T
  have hrun : ∀ q : Int32, zK n g s = q → zRun n g q s e → s < e ∧ zK n g (e - 1) = q := by
    intro q q1 ⟨r1, r2, r3⟩
    have : s < e := by
      by_cases c : s = e
      · rw [← c] at r3; exact absurd q1 r3
      · (first | ((try clear hb); (try clear hrun); grind) | grind)
    exact ⟨this, r2 (e - 1) (by (first | ((try clear hb); (try clear hrun); grind) | grind)) (by (first | ((try clear hb); (try clear hrun); grind) | grind))⟩
  rcases T with T | T | T | T | T | T
  · (first | ((try clear hb); (try clear hrun); grind) | grind)
  · obtain ⟨t1, t2, t3, t4⟩ := T
    rw [show e - 1 = s by (first | ((try clear hb); (try clear hrun); grind) | grind), t1, t3]
  · (first | ((try clear hb); (try clear hrun); grind) | grind)
  · obtain ⟨t1, t2, t3, t4, t5, _⟩ := T
    have := hrun 1 t1 t2
    exact ⟨fun _ => Or.inl this.2, fun _ => Or.inl t5⟩
  · (first | ((try clear hb); (try clear hrun); grind) | grind)
  · obtain ⟨t1, t2, t3, t4, t5, _⟩ := T
    have := hrun 2 t1 t2
    exact ⟨fun _ => Or.inr this.2, fun _ => Or.inr t5⟩
theorem zWord_n {w : Int32} (hw : ¬ w = 0) (n a bg wa : Int32) (g : Nat → Int32) : fn_X12_word n a bg w wa g = some (a, bg, w, wa) := by
  unfold fn_X12_word
  rw [zGw_n hw, zb_some, if_pos rfl]
theorem zWordM {n a e k s v o bg wa : Int32} {f g : Nat → Int32} (hn : n ≤ 1200) (ha : 0 ≤ a ∧ a ≤ n) (T : zTok n f g a e k s v o) : zw (fn_X12_word n a bg 0 wa g) (fun r => zIsW n g a s ∧ r = (e, s, 0, wa) ∨ ¬ zIsW n g a s ∧ r = (s, s, 1, s)) := by
  have hb := zTok_b ha T
  have hsk := T.1
  unfold fn_X12_word
  simp only [zGw_0, zb_some, zSm_fn hn, zDi_fn hn, zFl_0]
  refine zw_if (fun c => absurd c (by decide)) (fun _ => ?_)
  refine zw_zb0 (zHere hn ha) (fun r hr => ?_)
  obtain ⟨b, s'⟩ := r
  dsimp only at hr ⊢
  obtain rfl : s = s' := zSk_un hsk hr.1
  have hj : zJn n g a s ↔ (zK n g (s - 1) = 1 ∨ zK n g (s - 1) = 2) := by
    unfold zJn
    constructor
    · intro ⟨q1, q2⟩; rw [q1]; exact q2
    · intro q
      by_cases c : s = a
      · exact ⟨c, by rw [← c]; exact q⟩
      · have := hsk.2.1 (s - 1) (by have := hsk.1; (first | ((try clear T); (try clear hb); grind) | grind)) (by (first | ((try clear T); (try clear hb); grind) | grind))
        rw [this] at q
        exact absurd q (by decide)
  refine zw_if (fun c => ?_) (fun c => ?_)
  · refine zw_some (Or.inr ⟨fun q => ?_, rfl⟩)
    rw [if_pos q.1] at c
    exact absurd c (by decide)
  have c1 : zK n g s = 1 := by
    by_cases q : zK n g s = 1
    · exact q
    · rw [if_neg q] at c; exact absurd rfl c
  refine zw_if (fun d => ?_) (fun d => ?_)
  · refine zw_if (fun d2 => ?_) (fun d2 => ?_)
    · have hw : zIsW n g a s := by
        refine ⟨c1, fun q => ?_⟩
        rcases hj.mp q with q | q
        · rw [if_pos q] at d; exact absurd d (by decide)
        · rw [if_pos q] at d2; exact absurd d2 (by decide)
      have hrun := (zTok_w T hw).1
      refine zw_zl32 (fun p => s ≤ p ∧ p ≤ n ∧ (∀ i : Int32, s ≤ i → i < p → zK n g i = 1)) (fun p => n - p) ⟨by (first | ((try clear T); (try clear hb); grind) | grind), by (first | ((try clear T); (try clear hb); grind) | grind), fun i h1 h2 => by (first | ((try clear T); (try clear hb); grind) | grind)⟩ (by (try dsimp only); (first | ((try clear T); (try clear hb); grind) | grind)) (fun p back H h => ?_)
      obtain ⟨H1, H2, H3⟩ := H
      refine zw_if (fun q => ?_) (fun q => ?_)
      · refine zw_some (Or.inl ⟨hw, ?_⟩)
        have : zRun n g 1 s p := ⟨H1, H3, fun q2 => by rw [if_pos q2] at q; exact absurd q (by decide)⟩
        rw [zRun_un this hrun]
      · have q1 : zK n g p = 1 := by
          by_cases q2 : zK n g p = 1
          · exact q2
          · rw [if_neg q2] at q; exact absurd rfl q
        have hin := zK_in (n := n) (g := g) (i := p) (by rw [q1]; decide)
        refine h _ ⟨by (first | ((try clear T); (try clear hb); grind) | grind), by (first | ((try clear T); (try clear hb); grind) | grind), fun i i1 i2 => ?_⟩ (by (try dsimp only); (first | ((try clear T); (try clear hb); grind) | grind)) (by (try dsimp only); (first | ((try clear T); (try clear hb); grind) | grind))
        by_cases q2 : i = p
        · rw [q2]; exact q1
        · exact H3 i i1 (by (first | ((try clear T); (try clear hb); grind) | grind))
    · refine zw_some (Or.inr ⟨fun q => q.2 (hj.mpr (Or.inr ?_)), rfl⟩)
      by_cases q2 : zK n g (s - 1) = 2
      · exact q2
      · rw [if_neg q2] at d2; exact absurd rfl d2
  · refine zw_some (Or.inr ⟨fun q => q.2 (hj.mpr (Or.inl ?_)), rfl⟩)
    by_cases q2 : zK n g (s - 1) = 1
    · exact q2
    · rw [if_neg q2] at d; exact absurd rfl d
theorem zMust_n {w : Int32} (hw : ¬ w = 0) (p n a bg wa : Int32) (g tab : Nat → Int32) : fn_X12_must p n a bg w wa g tab = some (a, bg, w, wa) := by
  unfold fn_X12_must
  simp only [zWord_n hw, zb_some, zGw_n hw, if_true]
theorem zMustM {n a e k s v o bg wa w : Int32} {f g tab : Nat → Int32} (hn : n ≤ 1200) (ha : 0 ≤ a ∧ a ≤ n) (T : zTok n f g a e k s v o) (hT : (∀ k : Nat, k < 71 → tab k = zTab k)) (hw : 0 ≤ w) : zw (fn_X12_must w n a bg 0 wa g tab) (fun r => (k = 1 ∧ o = w) ∧ r = (e, s, 0, wa) ∨ ¬ (k = 1 ∧ o = w) ∧ r.2.2.1 = 1 ∧ r.2.2.2 = s) := by
  have hb := zTok_b ha T
  unfold fn_X12_must
  refine zw_zb0 (zWordM hn ha T) (fun r hr => ?_)
  rcases hr with ⟨hw1, rfl⟩ | ⟨hw1, rfl⟩
  · dsimp only
    rw [zGw_0, zb_some, if_neg (by decide)]
    obtain ⟨hrun, hk⟩ := zTok_w T hw1
    refine zw_zb0 (zOwnM (by (first | ((try clear T); (try clear hT); (try clear hb); grind) | grind)) (by (first | ((try clear T); (try clear hT); (try clear hb); grind) | grind)) hb.2.2.1 hT (fun i hi => zRun_l hb.1 hb.2.2.1 hb.2.2.2 hn hrun.2.1 i hi)) (fun p hp => ?_)
    obtain ⟨p1, p2, p3, p4⟩ := hp
    refine zw_if (fun c => ?_) (fun c => ?_)
    · refine zw_some (Or.inl ⟨?_, rfl⟩)
      rcases hk with ⟨k1, k2, k3, k4⟩ | ⟨k1, k2⟩
      · exact ⟨k1, by rw [← c]; exact zOwS_un k4 (p4 v k2 k3)⟩
      · have := p3 k2
        (first | ((try clear T); (try clear hT); (try clear hb); grind) | grind)
    · rw [zFl_0, zb_some]
      refine zw_some (Or.inr ⟨fun q => c ?_, rfl, rfl⟩)
      rcases hk with ⟨k1, k2, k3, k4⟩ | ⟨k1, k2⟩
      · rw [← q.2]; exact zOwS_un (p4 v k2 k3) k4
      · exact absurd (q.1.symm.trans k1) (by decide)
  · dsimp only
    rw [zGw_n (by decide), zb_some, if_pos rfl]
    exact zw_some (Or.inr ⟨fun q => hw1 (zTok_k1 T q.1), rfl, rfl⟩)
/-! names of class and reference: the same letters, the other way round -/
noncomputable def zNm (c m : Int32) : Prop := ∃ l : Nat → Int, (∀ i : Nat, 0 ≤ l i ∧ l i < 32) ∧ c.toInt = zCV l ∧ m.toInt = zMV l
theorem zMV_inj {l m : Nat → Int} (h : zMV l = zMV m) (h1 : ∀ i : Nat, 0 ≤ l i ∧ l i < 32) (h2 : ∀ i : Nat, 0 ≤ m i ∧ m i < 32) : zCV l = zCV m := by
  unfold zMV at h
  unfold zCV
  have a0 := h1 0
  have a1 := h1 1
  have a2 := h1 2
  have a3 := h1 3
  have a4 := h1 4
  have a5 := h1 5
  have b0 := h2 0
  have b1 := h2 1
  have b2 := h2 2
  have b3 := h2 3
  have b4 := h2 4
  have b5 := h2 5
  omega
theorem zNm_eq {c m c' m' : Int32} (h : zNm c m) (h' : zNm c' m') : c = c' ↔ m = m' := by
  obtain ⟨l, l1, l2, l3⟩ := h
  obtain ⟨q, q1, q2, q3⟩ := h'
  constructor
  · intro e
    apply Int32.toInt_inj.mp
    rw [l3, q3]
    have e2 : zCV l = zCV q := by rw [← l2, ← q2, e]
    have hi := zCV_inj e2 l1 q1
    unfold zMV
    rw [hi 0 (by decide), hi 1 (by decide), hi 2 (by decide), hi 3 (by decide), hi 4 (by decide), hi 5 (by decide)]
  · intro e
    apply Int32.toInt_inj.mp
    rw [l2, q2]
    exact zMV_inj (by rw [← l3, ← q3, e]) l1 q1
theorem zName_n {w : Int32} (hw : ¬ w = 0) (n a bg wa : Int32) (g tab : Nat → Int32) : fn_X12_name n a bg w wa g tab = some (0, a, bg, w, wa) := by
  unfold fn_X12_name
  simp only [zWord_n hw, zb_some, zGw_n hw, if_true, zj, zl_1, ite_self]
/-- the reference's name: its letters from the last one on -/
noncomputable def zNL (g : Nat → Int32) (s : Nat) : Nat → Nat → Int
  | _, 0 => 0
  | i, k + 1 => ((g (s + i)).toInt - 96) + 32 * zNL g s (i + 1) k
theorem zNL_M (g : Nat → Int32) (s K : Nat) (hK : K ≤ 6) : zNL g s 0 K = zMV (zLV g s K) := by
  match K, hK with
  | 0, _ => simp [zNL, zMV, zLV]
  | 1, _ => simp [zNL, zMV, zLV]
  | 2, _ => simp [zNL, zMV, zLV]; omega
  | 3, _ => simp [zNL, zMV, zLV]; omega
  | 4, _ => simp [zNL, zMV, zLV]; omega
  | 5, _ => simp [zNL, zMV, zLV]; omega
  | 6, _ => simp [zNL, zMV, zLV]; omega
theorem zNL_b (g : Nat → Int32) (s : Nat) (hl : ∀ i : Nat, i < 6 → 97 ≤ (g (s + i)).toInt ∧ (g (s + i)).toInt ≤ 122) : True := trivial
theorem zNameM {n a e k s v o bg wa : Int32} {f g tab : Nat → Int32} (hn : n ≤ 1200) (ha : 0 ≤ a ∧ a ≤ n) (T : zTok n f g a e k s v o) (hT : (∀ k : Nat, k < 71 → tab k = zTab k)) : zw (fn_X12_name n a bg 0 wa g tab) (fun r => (k = 1 ∧ o = (-1)) ∧ zNm v r.1 ∧ r.2 = (e, s, 0, wa) ∨ ¬ (k = 1 ∧ o = (-1)) ∧ r.1 = 0 ∧ r.2.2.2.1 = 1 ∧ r.2.2.2.2 = s) := by
  have hb := zTok_b ha T
  unfold fn_X12_name
  refine zw_zb0 (zWordM hn ha T) (fun r hr => ?_)
  rcases hr with ⟨hw1, rfl⟩ | ⟨hw1, rfl⟩
  · dsimp only
    rw [zGw_0, zb_some]
    obtain ⟨hrun, hk⟩ := zTok_w T hw1
    refine zw_zj (fun t => t = (0, wa) ∧ k = 1 ∧ o = (-1) ∨ t = (1, s) ∧ ¬ (k = 1 ∧ o = (-1))) (fun t ht => ?_) (fun j_9 hj9 => ?_)
    · rcases ht with ⟨rfl, k1, o1⟩ | ⟨rfl, hno⟩
      · dsimp only
        rcases hk with ⟨_, k2, k3, k4⟩ | ⟨q, _⟩
        · obtain ⟨a1, a2, a3, a4, a5, a6⟩ := zAdN hb.1 hb.2.2.1 (by (first | ((try clear T); (try clear hT); (try clear hb); (try clear hj9); grind) | grind) : e ≤ 1200)
          have hK6 : zSz s e ≤ 6 := zcl (e - s) 6 6 (by decide) k2
          have hl : ∀ i : Nat, i < zSz s e → 97 ≤ (g (s.toNatClampNeg + i)).toInt ∧ (g (s.toNatClampNeg + i)).toInt ≤ 122 := fun i hi => zKd1 (zRun_l hb.1 hb.2.2.1 hb.2.2.2 hn hrun.2.1 i hi)
          refine zw_zl32 (fun t => s ≤ t.2 + 1 ∧ t.2 + 1 ≤ e ∧ (-1) ≤ t.2 ∧ t.2 ≤ 1200 ∧ (∀ i : Nat, (i : Int) = t.2.toInt + 1 - s.toInt → t.1.toInt = zNL g s.toNatClampNeg i (zSz s e - i) ∧ 0 ≤ t.1.toInt ∧ t.1.toInt < (32 : Int) ^ (zSz s e - i))) (fun t => t.2 + 1 - s) ?_ ?_ (fun t back H h => ?_)
          · have e1 := zo_sub (x := e) (y := 1) (z := e - 1) rfl rfl zi_1' (by omega)
            refine ⟨by (try dsimp only); (first | ((try clear T); (try clear hT); (try clear hb); (try clear hj9); (try clear hl); grind) | grind), by (try dsimp only); (first | ((try clear T); (try clear hT); (try clear hb); (try clear hj9); (try clear hl); grind) | grind), by (try dsimp only); (first | ((try clear T); (try clear hT); (try clear hb); (try clear hj9); (try clear hl); grind) | grind), by (try dsimp only); (first | ((try clear T); (try clear hT); (try clear hb); (try clear hj9); (try clear hl); grind) | grind), fun i hi => ?_⟩
            dsimp only at hi ⊢
            have : i = zSz s e := by
              unfold zSz
              omega
            rw [this, Nat.sub_self]
            exact ⟨zi_0, by decide, by decide⟩
          · dsimp only
            (first | ((try clear T); (try clear hT); (try clear hb); (try clear hj9); (try clear hl); grind) | grind)
          · obtain ⟨x, p⟩ := t
            dsimp only at H h ⊢
            obtain ⟨H1, H2, H3, H4, H5⟩ := H
            have p1 := Int32.le_iff_toInt_le.mp H3
            have p2 := Int32.le_iff_toInt_le.mp H4
            rw [show (-1 : Int32).toInt = -1 by decide +kernel] at p1
            rw [z1200] at p2
            have e1 := zo_add (x := p) (y := 1) (z := p + 1) rfl rfl zi_1' (by omega)
            have p3 := Int32.le_iff_toInt_le.mp H1
            have p4 := Int32.le_iff_toInt_le.mp H2
            refine zw_if (fun c => ?_) (fun c => ?_)
            · rw [zGw_0, zb_some, if_neg (by decide)]
              refine zw_some (Or.inl ⟨⟨k1, o1⟩, ?_, rfl⟩)
              have c1 := Int32.lt_iff_toInt_lt.mp c
              have := (H5 0 (by omega)).1
              rw [Nat.sub_zero, zNL_M g _ _ hK6] at this
              exact ⟨_, zLV_b hl, k3, this⟩
            · rw [zGw_0, zb_some, if_neg (by decide)]
              have c1 : ¬ p.toInt < s.toInt := fun q => c (Int32.lt_iff_toInt_lt.mpr q)
              refine zw_zg32 1200 (by decide) (by (first | ((try clear T); (try clear hT); (try clear hb); (try clear hj9); (try clear hl); grind) | grind)) ?_
              obtain ⟨i, hi⟩ : ∃ i : Nat, (i : Int) = p.toInt - s.toInt := ⟨(p.toInt - s.toInt).toNat, by omega⟩
              have hik : i < zSz s e := by unfold zSz; omega
              obtain ⟨q1, q2, q3⟩ := H5 (i + 1) (by omega)
              have hpi : s.toNatClampNeg + i = p.toNatClampNeg := by
                show s.toInt.toNat + i = p.toInt.toNat
                omega
              have hg := hl i hik
              rw [hpi] at hg
              have hpow : (32 : Int) ^ (zSz s e - (i + 1)) ≤ 33554432 := by
                have := Nat.pow_le_pow_right (show 1 ≤ 32 by decide) (show zSz s e - (i + 1) ≤ 5 by omega)
                have h2 : ((32 ^ (zSz s e - (i + 1)) : Nat) : Int) ≤ ((32 ^ 5 : Nat) : Int) := by omega
                rw [Int.natCast_pow] at h2
                exact h2
              have r1 := zo_mul (x := 32) (y := x) (z := 32 * x) rfl (by decide +kernel : (32 : Int32).toInt = 32) rfl (by omega)
              have r2 := zo_add (x := 32 * x) (y := g p.toNatClampNeg) (z := 32 * x + g p.toNatClampNeg) rfl r1 rfl (by omega)
              have r3 := zo_sub (x := 32 * x + g p.toNatClampNeg) (y := 96) (z := 32 * x + g p.toNatClampNeg - 96) rfl r2 (by decide +kernel : (96 : Int32).toInt = 96) (by omega)
              have r4 := zo_add (x := p) (y := -1) (z := p + (-1)) rfl rfl (by decide +kernel : (-1 : Int32).toInt = -1) (by omega)
              refine h _ ⟨by (try dsimp only); (first | ((try clear T); (try clear hT); (try clear hb); (try clear hj9); (try clear hl); grind) | grind), by (try dsimp only); (first | ((try clear T); (try clear hT); (try clear hb); (try clear hj9); (try clear hl); grind) | grind), by (try dsimp only); (first | ((try clear T); (try clear hT); (try clear hb); (try clear hj9); (try clear hl); grind) | grind), by (try dsimp only); (first | ((try clear T); (try clear hT); (try clear hb); (try clear hj9); (try clear hl); grind) | grind), fun j hj => ?_⟩ (by (try dsimp only); (first | ((try clear T); (try clear hT); (try clear hb); (try clear hj9); (try clear hl); (try clear hj); grind) | grind)) (by (try dsimp only); (first | ((try clear T); (try clear hT); (try clear hb); (try clear hj9); (try clear hl); (try clear hj); grind) | grind))
              dsimp only at hj ⊢
              rw [r4] at hj
              have hji : j = i := by
                clear r1 r2 r3 r4 hpow hg q1 q2 q3 hpi hik
                omega
              subst hji
              have hsz : zSz s e - j = zSz s e - (j + 1) + 1 := by omega
              rw [r3, hsz, Int.pow_succ]
              show _ = ((g (s.toNatClampNeg + j)).toInt - 96) + 32 * zNL g s.toNatClampNeg (j + 1) (zSz s e - (j + 1)) ∧ _ ∧ _
              rw [hpi, ← q1]
              omega
        · exact absurd (k1.symm.trans q) (by decide)
      · dsimp only
        rw [zl_1]
        simp only [zGw_n (show ¬ (1 : Int32) = 0 by decide), zb_some, if_true, ite_self]
        exact zw_some (Or.inr ⟨hno, rfl, rfl, rfl⟩)
    · rw [if_neg (by decide)]
      refine zw_zb0 (zOwnM (by (first | ((try clear T); (try clear hT); (try clear hb); (try clear hj9); (try clear hl); (try clear hj); grind) | grind)) (by (first | ((try clear T); (try clear hT); (try clear hb); (try clear hj9); (try clear hl); (try clear hj); grind) | grind)) hb.2.2.1 hT (fun i hi => zRun_l hb.1 hb.2.2.1 hb.2.2.2 hn hrun.2.1 i hi)) (fun p hp => ?_)
      obtain ⟨p1, p2, p3, p4⟩ := hp
      refine zw_zj (fun _ => ¬ (k = 1 ∧ o = (-1))) (fun _ hq => ?_) (fun j_33 hj33 => ?_)
      · rw [zFl_0, zb_some]
        exact hj9 _ (Or.inr ⟨rfl, hq⟩)
      · refine zw_if (fun c => ?_) (fun c => hj33 () (fun q => c ?_))
        · refine zw_if (fun d => ?_) (fun d => hj33 () (fun q => ?_))
          · rcases hk with ⟨k1, k2, k3, k4⟩ | ⟨k1, k2⟩
            · exact hj9 _ (Or.inl ⟨rfl, k1, by rw [← c]; exact zOwS_un k4 (p4 v k2 k3)⟩)
            · (first | ((try clear T); (try clear hT); (try clear hb); (try clear hj9); (try clear hl); (try clear hj); (try clear hj33); grind) | grind)
          · rcases hk with ⟨k1, k2, k3, k4⟩ | ⟨k1, k2⟩
            · exact d k2
            · exact absurd (q.1.symm.trans k1) (by decide)
        · rcases hk with ⟨k1, k2, k3, k4⟩ | ⟨k1, k2⟩
          · rw [← q.2]; exact zOwS_un (p4 v k2 k3) k4
          · exact absurd (q.1.symm.trans k1) (by decide)
  · dsimp only
    simp only [zGw_n (show ¬ (1 : Int32) = 0 by decide), zb_some, if_true, zj, zl_1, ite_self]
    exact zw_some (Or.inr ⟨fun q => hw1 (zTok_k1 T q.1), rfl, rfl, rfl⟩)
theorem zMark_n {w : Int32} (hw : ¬ w = 0) (c n a wa : Int32) (g : Nat → Int32) : fn_X12_mark c n a w wa g = some (a, w, wa) := by
  unfold fn_X12_mark
  rw [zGw_n hw, zb_some, if_pos rfl]
/-- a sign stands there just when the class has read it -/
theorem zTok_c {n a e k s v o : Int32} {f g : Nat → Int32} (ht : zTp f g) (ha : 0 ≤ a ∧ a ≤ n) (T : zTok n f g a e k s v o) (c : Int32) (hc : zKd c = 3 ∧ 0 ≤ c ∧ c ≤ 127) : (k = 3 ∧ v = c) ↔ zB n g s = c := by
  have hb := zTok_b ha T
  obtain ⟨_, _, _, T⟩ := T
  have hts := ht s.toNatClampNeg
  constructor
  · intro ⟨k3, vc⟩
    rcases T with T | T | T | T | T | T
    · exact absurd (k3.symm.trans T.2.2.1) (by decide)
    · obtain ⟨t1, t2, t3, t4, t5⟩ := T
      have hin := zK_in (n := n) (g := g) (i := s) (by rw [t1]; decide)
      unfold zB
      rw [if_neg (by (first | ((try clear ht); (try clear hc); (try clear hb); grind) | grind))]
      (first | ((try clear ht); (try clear hc); (try clear hb); grind) | grind)
    · exact absurd (k3.symm.trans T.2.2.2.1) (by decide)
    · exact absurd (k3.symm.trans T.2.2.2.2.1) (by decide)
    · exact absurd (k3.symm.trans T.2.2.2.1) (by decide)
    · exact absurd (k3.symm.trans T.2.2.2.2.1) (by decide)
  · intro q
    have hin : 0 ≤ s ∧ s < n := by
      unfold zB at q
      by_cases d : s < 0 ∨ n ≤ s
      · rw [if_pos d] at q; (first | ((try clear ht); (try clear hc); (try clear hb); grind) | grind)
      · (first | ((try clear ht); (try clear hc); (try clear hb); grind) | grind)
    have hk : zK n g s = 3 := by
      rw [zK_at hin.1 hin.2]
      unfold zB at q
      rw [if_neg (by (first | ((try clear ht); (try clear hc); (try clear hb); grind) | grind))] at q
      rw [q]; exact hc.1
    unfold zB at q
    rw [if_neg (by (first | ((try clear ht); (try clear hc); (try clear hb); grind) | grind))] at q
    rcases T with T | T | T | T | T | T
    · exact absurd (hk.symm.trans T.1) (by decide)
    · obtain ⟨t1, t2, t3, t4, t5⟩ := T
      exact ⟨t3, by rw [t4]; (first | ((try clear ht); (try clear hc); (try clear hb); grind) | grind)⟩
    · exact absurd (hk.symm.trans T.1) (by decide)
    · exact absurd (hk.symm.trans T.1) (by decide)
    · exact absurd (hk.symm.trans T.1) (by decide)
    · exact absurd (hk.symm.trans T.1) (by decide)
theorem zTok_3 {n a e k s v o : Int32} {f g : Nat → Int32} (T : zTok n f g a e k s v o) (h : k = 3) : e = s + 1 := by
  obtain ⟨_, _, _, T⟩ := T
  rcases T with T | T | T | T | T | T
  · exact absurd (h.symm.trans T.2.2.1) (by decide)
  · exact T.2.1
  · exact absurd (h.symm.trans T.2.2.2.1) (by decide)
  · exact absurd (h.symm.trans T.2.2.2.2.1) (by decide)
  · exact absurd (h.symm.trans T.2.2.2.1) (by decide)
  · exact absurd (h.symm.trans T.2.2.2.2.1) (by decide)
theorem zMarkM {n a e k s v o wa c : Int32} {f g : Nat → Int32} (hn : n ≤ 1200) (ht : zTp f g) (ha : 0 ≤ a ∧ a ≤ n) (T : zTok n f g a e k s v o) (hc : zKd c = 3 ∧ 0 ≤ c ∧ c ≤ 127) : zw (fn_X12_mark c n a 0 wa g) (fun r => (k = 3 ∧ v = c) ∧ r = (e, 0, wa) ∨ ¬ (k = 3 ∧ v = c) ∧ r.2.1 = 1 ∧ r.2.2 = s) := by
  have hcc := zTok_c ht ha T c hc
  unfold fn_X12_mark
  rw [zGw_0, zb_some, if_neg (by decide)]
  refine zw_zb0 (zHere hn ha) (fun r hr => ?_)
  obtain ⟨b, s'⟩ := r
  dsimp only at hr ⊢
  obtain ⟨h1, h2⟩ := hr
  obtain rfl : s = s' := zSk_un T.1 h1
  refine zw_if (fun d => ?_) (fun d => ?_)
  · have q := hcc.mpr (by rw [← h2]; exact d)
    exact zw_some (Or.inl ⟨q, by rw [zTok_3 T q.1]⟩)
  · rw [zFl_0, zb_some]
    exact zw_some (Or.inr ⟨fun q => d (by rw [h2]; exact hcc.mp q), rfl, rfl⟩)
theorem zDig_n {w : Int32} (hw : ¬ w = 0) (n a bg wa : Int32) (g : Nat → Int32) : fn_X12_digits n a bg w wa g = some (0, a, bg, w, wa) := by
  unfold fn_X12_digits
  rw [zGw_n hw, zb_some, if_pos rfl]
theorem z64_of {x : Int64} {v : Int32} (h : x.toInt = v.toInt) : x = v.toInt64 := by
  apply Int64.toInt_inj.mp
  rw [z64_i, h]
set_option maxHeartbeats 1000000 in
theorem zDigM {n a e k s v o bg wa : Int32} {f g : Nat → Int32} (hn : n ≤ 1200) (ha : 0 ≤ a ∧ a ≤ n) (T : zTok n f g a e k s v o) : zw (fn_X12_digits n a bg 0 wa g) (fun r => k = 2 ∧ 0 ≤ v ∧ v ≤ 99999999 ∧ r = (v.toInt64, e, s, 0, wa) ∨ ¬ k = 2 ∧ r.1 = 0 ∧ r.2.2.2.1 = 1 ∧ r.2.2.2.2 = s) := by
  have hb := zTok_b ha T
  have hsk := T.1
  unfold fn_X12_digits
  simp only [zGw_0, zb_some, zSm_fn hn, zDi_fn hn, zFl_0, zB_fn hn]
  refine zw_if (fun c => absurd c (by decide)) (fun _ => ?_)
  refine zw_zb0 (zHere hn ha) (fun r hr => ?_)
  obtain ⟨b, s'⟩ := r
  dsimp only at hr ⊢
  obtain rfl : s = s' := zSk_un hsk hr.1
  have hj : zJn n g a s ↔ (zK n g (s - 1) = 1 ∨ zK n g (s - 1) = 2) := by
    unfold zJn
    constructor
    · intro ⟨q1, q2⟩; rw [q1]; exact q2
    · intro q
      by_cases c : s = a
      · exact ⟨c, by rw [← c]; exact q⟩
      · have := hsk.2.1 (s - 1) (by have := hsk.1; (first | ((try clear T); (try clear hb); grind) | grind)) (by (first | ((try clear T); (try clear hb); grind) | grind))
        rw [this] at q
        exact absurd q (by decide)
  obtain ⟨_, _, _, TT⟩ := T
  have hk2 : k = 2 → zK n g s = 2 ∧ ¬ zJn n g a s := by
    intro q
    rcases TT with T | T | T | T | T | T
    · exact absurd (q.symm.trans T.2.2.1) (by decide)
    · exact absurd (q.symm.trans T.2.2.1) (by decide)
    · exact absurd (q.symm.trans T.2.2.2.1) (by decide)
    · exact absurd (q.symm.trans T.2.2.2.2.1) (by decide)
    · exact absurd (q.symm.trans T.2.2.2.1) (by decide)
    · exact ⟨T.1, T.2.2.1⟩
  refine zw_if (fun c => ?_) (fun c => ?_)
  · refine zw_some (Or.inr ⟨fun q => ?_, rfl, rfl, rfl⟩)
    rw [if_pos (hk2 q).1] at c
    exact absurd c (by decide)
  have c1 : zK n g s = 2 := by
    by_cases q : zK n g s = 2
    · exact q
    · rw [if_neg q] at c; exact absurd rfl c
  refine zw_if (fun d => ?_) (fun d => ?_)
  · refine zw_if (fun d2 => ?_) (fun d2 => ?_)
    · have hnj : ¬ zJn n g a s := by
        intro q
        rcases hj.mp q with q | q
        · rw [if_pos q] at d; exact absurd d (by decide)
        · rw [if_pos q] at d2; exact absurd d2 (by decide)
      have hrun : zRun n g 2 s e ∧ (k = 2 ∧ e - s ≤ 8 ∧ v.toInt = zDV g s.toNatClampNeg (zSz s e) ∨ ¬ k = 2 ∧ 8 < e - s) := by
        rcases TT with T | T | T | T | T | T
        · exact absurd (c1.symm.trans T.1) (by decide)
        · exact absurd (c1.symm.trans T.1) (by decide)
        · exact absurd (c1.symm.trans T.1) (by decide)
        · exact absurd (c1.symm.trans T.1) (by decide)
        · refine ⟨T.2.1, Or.inr ⟨by rw [T.2.2.2.1]; decide, ?_⟩⟩
          rcases T.2.2.1 with q | q
          · exact absurd q hnj
          · exact q
        · exact ⟨T.2.1, Or.inl ⟨T.2.2.2.2.1, T.2.2.2.1, T.2.2.2.2.2.1⟩⟩
      refine zw_zl32 (fun t => s ≤ t.2 ∧ t.2 ≤ n ∧ (∀ i : Int32, s ≤ i → i < t.2 → zK n g i = 2) ∧ (t.2 - s ≤ 8 → t.1.toInt = zDV g s.toNatClampNeg (zSz s t.2))) (fun t => n - t.2) ?_ (by (try dsimp only); (first | ((try clear hb); grind) | grind)) (fun t back H h => ?_)
      · refine ⟨by (try dsimp only); (first | ((try clear hb); grind) | grind), by (try dsimp only); (first | ((try clear hb); grind) | grind), fun i h1 h2 => by dsimp only at h2; (first | ((try clear hb); grind) | grind), fun _ => ?_⟩
        dsimp only
        unfold zSz
        rw [show s - s = 0 by (first | ((try clear hb); grind) | grind), zn01.1]
        rfl
      obtain ⟨x, p⟩ := t
      dsimp only at H h ⊢
      obtain ⟨H1, H2, H3, H4⟩ := H
      obtain ⟨a1, a2, a3, a4, a5, a6⟩ := zAdN hb.1 H1 (by (first | ((try clear hb); grind) | grind) : p ≤ 1200)
      refine zw_if (fun q => ?_) (fun q => ?_)
      · have hp : zRun n g 2 s p := ⟨H1, H3, fun q2 => by rw [if_pos q2] at q; exact absurd q (by decide)⟩
        obtain rfl := zRun_un hp hrun.1
        refine zw_if (fun d3 => ?_) (fun d3 => ?_)
        · refine zw_if (fun q3 => absurd q3 (by decide)) (fun _ => ?_)
          rcases hrun.2 with ⟨k2, k8, kv⟩ | ⟨k2, k8⟩
          · have hbd := zDV_b (g := g) (s := s.toNatClampNeg) (zSz s p) (fun i hi => zKd2 (zRun_l hb.1 H1 H2 hn H3 i hi))
            have h8 : zSz s p ≤ 8 := zcl (p - s) 8 8 (by decide) k8
            have hp8 := zp10 h8
            rw [show (10 : Int) ^ 8 = 100000000 by decide] at hp8
            refine zw_some (Or.inl ⟨k2, ?_, ?_, ?_⟩)
            · apply Int32.le_iff_toInt_le.mpr
              rw [zi_0]; omega
            · apply Int32.le_iff_toInt_le.mpr
              rw [show (99999999 : Int32).toInt = 99999999 by decide +kernel]; omega
            · rw [z64_of ((H4 d3).trans kv.symm)]
          · (first | ((try clear hb); grind) | grind)
        · rw [zGw_n (show ¬ (1 : Int32) = 0 by decide), zb_some]
          refine zw_if (fun _ => ?_) (fun q3 => absurd rfl q3)
          refine zw_some (Or.inr ⟨fun q2 => ?_, rfl, rfl, rfl⟩)
          rcases hrun.2 with ⟨k2, k8, kv⟩ | ⟨k2, k8⟩
          · exact d3 k8
          · exact k2 q2
      · have q1 : zK n g p = 2 := by
          by_cases q2 : zK n g p = 2
          · exact q2
          · rw [if_neg q2] at q; exact absurd rfl q
        have hin := zK_in (n := n) (g := g) (i := p) (by rw [q1]; decide)
        have hall : ∀ i : Int32, s ≤ i → i < p + 1 → zK n g i = 2 := by
          intro i i1 i2
          by_cases q2 : i = p
          · rw [q2]; exact q1
          · exact H3 i i1 (by (first | ((try clear hb); (try clear hall); grind) | grind))
        refine zw_if (fun d3 => ?_) (fun d3 => ?_)
        · exact h _ ⟨by (try dsimp only); (first | ((try clear hb); (try clear hall); grind) | grind), by (try dsimp only); (first | ((try clear hb); (try clear hall); grind) | grind), hall, fun q2 => absurd q2 (by (try dsimp only); (first | ((try clear hb); (try clear hall); grind) | grind))⟩ (by (try dsimp only); (first | ((try clear hb); (try clear hall); grind) | grind)) (by (try dsimp only); (first | ((try clear hb); (try clear hall); grind) | grind))
        · refine h _ ⟨by (try dsimp only); (first | ((try clear hb); (try clear hall); grind) | grind), by (try dsimp only); (first | ((try clear hb); (try clear hall); grind) | grind), hall, fun _ => ?_⟩ (by (try dsimp only); (first | ((try clear hb); (try clear hall); grind) | grind)) (by (try dsimp only); (first | ((try clear hb); (try clear hall); grind) | grind))
          dsimp only
          have hz : zSz s (p + 1) = zSz s p + 1 := by
            unfold zSz
            rw [show p + 1 - s = p - s + 1 by (first | ((try clear hb); (try clear hall); grind) | grind)]
            exact zNx (by (first | ((try clear hb); (try clear hall); grind) | grind)) (by (first | ((try clear hb); (try clear hall); grind) | grind))
          have h7 : zSz s p ≤ 7 := zcl (p - s) 7 7 (by decide) (by (first | ((try clear hb); (try clear hall); grind) | grind))
          have hbd := zDV_b (g := g) (s := s.toNatClampNeg) (zSz s p) (fun i hi => zKd2 (zRun_l hb.1 H1 H2 hn H3 i hi))
          have hp7 := zp10 h7
          rw [show (10 : Int) ^ 7 = 10000000 by decide] at hp7
          have hx := H4 (by (first | ((try clear hb); (try clear hall); (try clear hx); grind) | grind))
          have hgp : zB n g p = g p.toNatClampNeg := by
            unfold zB
            rw [if_neg (by (first | ((try clear hb); (try clear hall); (try clear hx); grind) | grind))]
          have hgb := zKd2 (c := g p.toNatClampNeg) (by rw [← zK_at (n := n) hin.1 hin.2]; exact q1)
          rw [hgp, hz]
          show _ = zDV g s.toNatClampNeg (zSz s p) * 10 + ((g (s.toNatClampNeg + zSz s p)).toInt - 48)
          rw [show s.toNatClampNeg + zSz s p = p.toNatClampNeg from a1]
          have e1 : ((10 : Int64) * x).toInt = 10 * x.toInt := by
            rw [Int64.toInt_mul, show (10 : Int64).toInt = 10 by decide +kernel, Int.bmod_def]
            split <;> omega
          have e2 : ((10 : Int64) * x + (g p.toNatClampNeg).toInt64).toInt = 10 * x.toInt + (g p.toNatClampNeg).toInt := by
            rw [Int64.toInt_add, e1, z64_i, Int.bmod_def]
            split <;> omega
          have e3 : ((10 : Int64) * x + (g p.toNatClampNeg).toInt64 - (48 : Int64)).toInt = 10 * x.toInt + (g p.toNatClampNeg).toInt - 48 := by
            rw [Int64.toInt_sub, e2, show (48 : Int64).toInt = 48 by decide +kernel, Int.bmod_def]
            split <;> omega
          rw [e3, hx]
          omega
    · refine zw_some (Or.inr ⟨fun q => (hk2 q).2 (hj.mpr (Or.inr ?_)), rfl, rfl, rfl⟩)
      by_cases q2 : zK n g (s - 1) = 2
      · exact q2
      · rw [if_neg q2] at d2; exact absurd rfl d2
  · refine zw_some (Or.inr ⟨fun q => (hk2 q).2 (hj.mpr (Or.inl ?_)), rfl, rfl, rfl⟩)
    by_cases q2 : zK n g (s - 1) = 1
    · exact q2
    · rw [if_neg q2] at d; exact absurd rfl d
theorem zIsIn (x lo hi : Int64) : fn_X12_isIn x lo hi = some (if lo ≤ x ∧ x ≤ hi then 1 else 0) := by
  unfold fn_X12_isIn
  by_cases c : lo ≤ x
  · rw [if_neg (fun q => absurd ((lg_cmp_lt _ _).mp q) (by grind))]
    by_cases d : x ≤ hi
    · rw [if_neg (fun q => absurd ((lg_cmp_gt _ _).mp q) (by grind)), if_pos ⟨c, d⟩]
    · rw [if_pos ((lg_cmp_gt _ _).mpr (by grind)), if_neg (fun q => d q.2)]
  · rw [if_pos ((lg_cmp_lt _ _).mpr (by grind)), if_neg (fun q => c q.1)]
theorem zNum_n {w : Int32} (hw : ¬ w = 0) (lo hi : Int64) (n a bg wa : Int32) (g : Nat → Int32) : fn_X12_number lo hi n a bg w wa g = some (0, a, bg, w, wa) := by
  unfold fn_X12_number
  simp only [zDig_n hw, zb_some, zGw_n hw, if_true]
theorem zNumM {n a e k s v o bg wa : Int32} {f g : Nat → Int32} (lo hi : Int64) (hn : n ≤ 1200) (ha : 0 ≤ a ∧ a ≤ n) (T : zTok n f g a e k s v o) : zw (fn_X12_number lo hi n a bg 0 wa g) (fun r => k = 2 ∧ (lo ≤ v.toInt64 ∧ v.toInt64 ≤ hi) ∧ 0 ≤ v ∧ v ≤ 99999999 ∧ r = (v.toInt64, e, s, 0, wa) ∨ k = 2 ∧ ¬ (lo ≤ v.toInt64 ∧ v.toInt64 ≤ hi) ∧ r.2.2.2.1 = 2 ∧ r.2.2.2.2 = s ∨ ¬ k = 2 ∧ r.2.2.2.1 = 1 ∧ r.2.2.2.2 = s) := by
  unfold fn_X12_number
  refine zw_zb0 (zDigM hn ha T) (fun r hr => ?_)
  rcases hr with ⟨k2, v0, v1, rfl⟩ | ⟨k2, r1, r2, r3⟩
  · dsimp only
    simp only [zGw_0, zb_some, zIsIn, zFl_0]
    refine zw_if (fun q => absurd q (by decide)) (fun _ => ?_)
    refine zw_if (fun q => ?_) (fun q => ?_)
    · have hno : ¬ (lo ≤ v.toInt64 ∧ v.toInt64 ≤ hi) := by
        intro q2
        rw [if_pos q2] at q
        exact absurd q (by decide)
      rw [zGw_n (by decide), zb_some, if_pos rfl]
      exact zw_some (Or.inr (Or.inl ⟨k2, hno, rfl, rfl⟩))
    · have hyes : lo ≤ v.toInt64 ∧ v.toInt64 ≤ hi := by
        by_cases q2 : lo ≤ v.toInt64 ∧ v.toInt64 ≤ hi
        · exact q2
        · rw [if_neg q2] at q; exact absurd rfl q
      refine zw_if (fun q => absurd q (by decide)) (fun _ => ?_)
      exact zw_some (Or.inl ⟨k2, hyes, v0, v1, rfl⟩)
  · obtain ⟨x1, x2, x3, x4, x5⟩ := r
    dsimp only at r1 r2 r3 ⊢
    subst r2
    simp only [zGw_n (show ¬ (1 : Int32) = 0 by decide), zb_some, if_true]
    exact zw_some (Or.inr (Or.inr ⟨k2, rfl, r3⟩))
/-! the class's reading -/
theorem zAdvN {n a e k s v o : Int32} {f g own : Nat → Int32} (hn : n ≤ 1200) (ha : 0 ≤ a ∧ a ≤ n) (ht : zTp f g) (ho : ∀ w : Nat, w < 13 → own w = zOwT w) (T : zTok n f g a e k s v o) (hk : k = 1 ∨ k = 2 ∨ k = 3) : zw (fn_X10_advance n e k f own) (fun r => zTok n f g e r.1 r.2.1 r.2.2.1 r.2.2.2.1 r.2.2.2.2) :=
  zAdv hn (zTok_nx hn ha T hk).1 ht ho (zTok_nx hn ha T hk).2
theorem zIsSign (c k v : Int32) : fn_X10_isSign c k v = some (if k = 3 ∧ v = c then 1 else 0) := by
  unfold fn_X10_isSign
  grind
theorem zIsOwn (w k o : Int32) : fn_X10_isOwn w k o = some (if k = 1 ∧ o = w then 1 else 0) := by
  unfold fn_X10_isOwn
  grind
theorem zIsName (k o : Int32) : fn_X10_isName k o = some (if k = 1 ∧ o = (-1) then 1 else 0) := by
  unfold fn_X10_isName
  grind
theorem zIf1 {c : Prop} [Decidable c] (h : ¬ (if c then (1 : Int32) else 0) = 0) : c := by
  by_cases q : c
  · exact q
  · rw [if_neg q] at h; exact absurd rfl h
theorem zIf0 {c : Prop} [Decidable c] (h : (if c then (1 : Int32) else 0) = 0) : ¬ c := by
  intro q
  rw [if_pos q] at h
  exact absurd h (by decide)
/-- a word that the class has read: what comes next -/
noncomputable def zNext (n : Int32) (f g : Nat → Int32) (a : Int32) (r : Int32 × Int32 × Int32 × Int32 × Int32) : Prop := (0 ≤ a ∧ a ≤ n) ∧ zTok n f g a r.1 r.2.1 r.2.2.1 r.2.2.2.1 r.2.2.2.2
theorem zRSign {n a e k s v o c fk fp : Int32} {f g own : Nat → Int32} (hn : n ≤ 1200) (ha : 0 ≤ a ∧ a ≤ n) (ht : zTp f g) (ho : ∀ w : Nat, w < 13 → own w = zOwT w) (T : zTok n f g a e k s v o) : zw (fn_X5_readSign c fk fp n e k s v o f own) (fun r => (k = 3 ∧ v = c) ∧ (∃ x, r = (1, fk, fp, x) ∧ zNext n f g e x) ∨ ¬ (k = 3 ∧ v = c) ∧ r = (0, 1, s, e, k, s, v, o)) := by
  unfold fn_X5_readSign
  simp only [zIsSign, zb_some]
  refine zw_if (fun c => ?_) (fun c => ?_)
  · exact zw_some (Or.inr ⟨zIf0 c, rfl⟩)
  have c := zIf1 c
  refine zw_zb0 (zAdvN hn ha ht ho T (Or.inr (Or.inr c.1))) (fun r hr => ?_)
  exact zw_some (Or.inl ⟨c, r, rfl, (zTok_nx hn ha T (Or.inr (Or.inr c.1))).1, hr⟩)
theorem zROwn {n a e k s v o w fk fp : Int32} {f g own : Nat → Int32} (hn : n ≤ 1200) (ha : 0 ≤ a ∧ a ≤ n) (ht : zTp f g) (ho : ∀ w : Nat, w < 13 → own w = zOwT w) (T : zTok n f g a e k s v o) : zw (fn_X5_readOwn w fk fp n e k s v o f own) (fun r => (k = 1 ∧ o = w) ∧ (∃ x, r = (1, fk, fp, x) ∧ zNext n f g e x) ∨ ¬ (k = 1 ∧ o = w) ∧ r = (0, 1, s, e, k, s, v, o)) := by
  unfold fn_X5_readOwn
  simp only [zIsOwn, zb_some]
  refine zw_if (fun c => ?_) (fun c => ?_)
  · exact zw_some (Or.inr ⟨zIf0 c, rfl⟩)
  have c := zIf1 c
  refine zw_zb0 (zAdvN hn ha ht ho T (Or.inl c.1)) (fun r hr => ?_)
  exact zw_some (Or.inl ⟨c, r, rfl, (zTok_nx hn ha T (Or.inl c.1)).1, hr⟩)
/-- a number without a sign -/
theorem zRVal0 {n a e k s v o lo hi got fk fp : Int32} {f g own : Nat → Int32} (hn : n ≤ 1200) (ha : 0 ≤ a ∧ a ≤ n) (ht : zTp f g) (ho : ∀ w : Nat, w < 13 → own w = zOwT w) (T : zTok n f g a e k s v o) : zw (fn_X5_readValue 0 lo hi got fk fp n e k s v o f own) (fun r => k = 2 ∧ (lo ≤ v ∧ v ≤ hi) ∧ (∃ x, r = (1, v, fk, fp, x) ∧ zNext n f g e x) ∨ k = 2 ∧ ¬ (lo ≤ v ∧ v ≤ hi) ∧ r = (0, got, 2, s, e, k, s, v, o) ∨ ¬ k = 2 ∧ r = (0, got, 1, s, e, k, s, v, o)) := by
  unfold fn_X5_readValue
  simp only [fn_X5_stopAt, zb_some]
  refine zw_zj (fun t => t = 0) (fun t ht1 => ?_) (fun j_1 hj1 => ?_)
  · subst ht1
    refine zw_zj (fun t => t = (e, k, s, v, o)) (fun t ht2 => ?_) (fun j_2 hj2 => ?_)
    · subst ht2
      dsimp only
      refine zw_if (fun c => ?_) (fun c => ?_)
      · refine zw_zj (fun t => t = v) (fun t ht3 => ?_) (fun j_4 hj4 => ?_)
        · subst ht3
          refine zw_if (fun d => ?_) (fun d => ?_)
          · exact zw_some (Or.inr (Or.inl ⟨c, by (first | ((try clear ht); (try clear ho); (try clear T); (try clear hj1); (try clear hj2); (try clear hj4); grind) | grind), rfl⟩))
          refine zw_if (fun d2 => ?_) (fun d2 => ?_)
          · refine zw_zb0 (zAdvN hn ha ht ho T (Or.inr (Or.inl c))) (fun r hr => ?_)
            exact zw_some (Or.inl ⟨c, by (first | ((try clear ht); (try clear ho); (try clear T); (try clear hj1); (try clear hj2); (try clear hj4); grind) | grind), r, rfl, (zTok_nx hn ha T (Or.inr (Or.inl c))).1, hr⟩)
          · exact zw_some (Or.inr (Or.inl ⟨c, by (first | ((try clear ht); (try clear ho); (try clear T); (try clear hj1); (try clear hj2); (try clear hj4); grind) | grind), rfl⟩))
        · refine zw_if (fun _ => hj4 _ rfl) (fun q => absurd rfl q)
      · exact zw_some (Or.inr (Or.inr ⟨c, rfl⟩))
    · refine zw_if (fun _ => hj2 _ rfl) (fun q => absurd rfl q)
  · refine zw_zj (fun _ => True) (fun _ _ => hj1 0 rfl) (fun j_29 hj29 => ?_)
    exact zw_if (fun _ => hj29 () trivial) (fun q => absurd trivial q)
theorem zTok_s {n a e k s v o : Int32} {f g : Nat → Int32} (T : zTok n f g a e k s v o) : zTok n f g s e k s v o := by
  have hsk := T.1
  have hj : zJn n g s s = zJn n g a s := by
    apply propext
    unfold zJn
    constructor
    · intro ⟨_, q⟩
      by_cases c : s = a
      · exact ⟨c, by rw [← c]; exact q⟩
      · have h1 := hsk.1
        have := hsk.2.1 (s - 1)
        by_cases d : a ≤ s - 1 ∧ s - 1 < s
        · rw [this d.1 d.2] at q
          exact absurd q (by decide)
        · exfalso
          apply d
          constructor <;> (first | ((try clear T); grind) | grind)
    · intro ⟨q1, q2⟩
      exact ⟨rfl, by rw [q1]; exact q2⟩
  unfold zTok at T ⊢
  rw [hj]
  exact ⟨⟨Int32.le_refl _, fun i h1 h2 => by (first | ((try clear T); grind) | grind), hsk.2.2⟩, T.2⟩
/-- both have stopped, with one fault -/
noncomputable def zStop (ok fk fp w wa : Int32) : Prop := ok = 0 ∧ ¬ w = 0 ∧ fk = w ∧ fp = wa
/-- a number that may have a minus: class and reference side by side -/
noncomputable def zVR (n : Int32) (f g : Nat → Int32) (lq lo hi s fk fp wa : Int32) (r : Int32 × Int32 × Int32 × Int32 × Int32 × Int32 × Int32 × Int32 × Int32) (q : Int64 × Int32 × Int32 × Int32 × Int32) : Prop :=
  (∃ x y z, r = (1, x, fk, fp, y) ∧ q = (x.toInt64, z, s, 0, wa) ∧ lo ≤ x ∧ x ≤ hi ∧ zNext n f g z y) ∨ zStop r.1 r.2.2.1 r.2.2.2.1 q.2.2.2.1 q.2.2.2.2 ∨ (r.1 = 0 ∧ r.2.2.1 = 2 ∧ r.2.2.2.1 = s ∧ ∃ x z, q = (x.toInt64, z, s, 0, wa) ∧ lq ≤ x ∧ x < lo)
theorem zSig_n {w : Int32} (hw : ¬ w = 0) (lo hi : Int64) (n a bg wa : Int32) (g : Nat → Int32) : fn_X12_signed lo hi n a bg w wa g = some (0, a, bg, w, wa) := by
  unfold fn_X12_signed
  rw [zGw_n hw, zb_some, if_pos rfl]
theorem zNeg64 {v : Int32} (h0 : 0 ≤ v) (h1 : v ≤ 99999999) : -v.toInt64 = (-v).toInt64 := by
  have a0 := Int32.le_iff_toInt_le.mp h0
  have a1 := Int32.le_iff_toInt_le.mp h1
  rw [zi_0] at a0
  rw [show (99999999 : Int32).toInt = 99999999 by decide +kernel] at a1
  apply Int64.toInt_inj.mp
  rw [z64_i, Int64.toInt_neg, Int32.toInt_neg, z64_i, Int.bmod_def, Int.bmod_def]
  split <;> split <;> omega
set_option maxHeartbeats 1000000 in
theorem zRVal1 {n a e k s v o lq lo hi got fk fp bg wa : Int32} {f g own : Nat → Int32} (hn : n ≤ 1200) (ha : 0 ≤ a ∧ a ≤ n) (ht : zTp f g) (ho : ∀ w : Nat, w < 13 → own w = zOwT w) (T : zTok n f g a e k s v o) (hll : lq ≤ lo) : zw (fn_X5_readValue 1 lo hi got fk fp n e k s v o f own) (fun r => zw (fn_X12_signed lq.toInt64 hi.toInt64 n a bg 0 wa g) (fun q => zVR n f g lq lo hi s fk fp wa r q)) := by
  have hcc := zTok_c ht ha T 45 (by decide +kernel)
  have hsg : ∀ P : Int64 × Int32 × Int32 × Int32 × Int32 → Prop, (∀ (a2 : Int32) (m : Int32), (m = 0 ∧ a2 = s ∧ ¬ (k = 3 ∧ v = 45) ∨ m = 1 ∧ a2 = e ∧ (k = 3 ∧ v = 45)) → zw (zb (fn_X12_digits n a2 bg 0 wa g) (fun o_12 => (zj (fun (s_16 : Int64) => (zb (fn_X12_goesWell o_12.2.2.2.1) (fun o_17 => (zj (fun (s_21 : Int32 × Int32) => (zb (fn_X12_goesWell s_21.1) (fun o_22 => (if o_22 = 0 then (some ((0 : Int64), o_12.2.1, s, s_21.1, s_21.2)) else (some (s_16, o_12.2.1, s, s_21.1, s_21.2)))))) (fun j_21 => (if o_17 = 0 then (j_21 (o_12.2.2.2.1, o_12.2.2.2.2)) else (zb (fn_X12_isIn s_16 lq.toInt64 hi.toInt64) (fun o_28 => (if o_28 = 0 then (zb (fn_X12_faults 2 s o_12.2.2.2.1 o_12.2.2.2.2) (fun o_33 => (j_21 (o_33.1, o_33.2)))) else (j_21 (o_12.2.2.2.1, o_12.2.2.2.2))))))))))) (fun j_16 => (if m = 0 then (j_16 o_12.1) else (j_16 (-o_12.1))))))) P) → zw (fn_X12_signed lq.toInt64 hi.toInt64 n a bg 0 wa g) P := by
    intro P hP
    unfold fn_X12_signed
    rw [zGw_0, zb_some, if_neg (by decide)]
    refine zw_zb0 (zHere hn ha) (fun r hr => ?_)
    obtain ⟨b, s'⟩ := r
    dsimp only at hr ⊢
    obtain ⟨h1, h2⟩ := hr
    obtain rfl : s = s' := zSk_un T.1 h1
    refine zw_zj (fun m => m = 0 ∧ ¬ (k = 3 ∧ v = 45) ∨ m = 1 ∧ (k = 3 ∧ v = 45)) (fun m hm => ?_) (fun j_10 hj10 => ?_)
    · refine zw_zj (fun a2 => m = 0 ∧ a2 = s ∧ ¬ (k = 3 ∧ v = 45) ∨ m = 1 ∧ a2 = e ∧ (k = 3 ∧ v = 45)) (fun a2 ha2 => hP a2 m ha2) (fun j_11 hj11 => ?_)
      rcases hm with ⟨rfl, hm⟩ | ⟨rfl, hm⟩
      · exact zw_if (fun _ => hj11 _ (Or.inl ⟨rfl, rfl, hm⟩)) (fun q => absurd rfl q)
      · exact zw_if (fun q => absurd q (by decide)) (fun _ => hj11 _ (Or.inr ⟨rfl, (zTok_3 T hm.1).symm, hm⟩))
    · refine zw_if (fun q => hj10 1 (Or.inr ⟨rfl, hcc.mpr (by rw [← h2]; exact q)⟩)) (fun q => hj10 0 (Or.inl ⟨rfl, fun q2 => q (by rw [h2]; exact hcc.mp q2)⟩))
  -- what the reference does with its digits
  have hdg : ∀ (a2 m e2 k2 s2 v2 o2 : Int32) (r : Int32 × Int32 × Int32 × Int32 × Int32 × Int32 × Int32 × Int32 × Int32), (0 ≤ a2 ∧ a2 ≤ n) → zTok n f g a2 e2 k2 s2 v2 o2 →
      (k2 = 2 → (lo ≤ (if m = 0 then v2 else -v2) ∧ (if m = 0 then v2 else -v2) ≤ hi) → ∃ y, r = (1, (if m = 0 then v2 else -v2), fk, fp, y) ∧ zNext n f g e2 y) →
      (k2 = 2 → ¬ (lo ≤ (if m = 0 then v2 else -v2) ∧ (if m = 0 then v2 else -v2) ≤ hi) → r.1 = 0 ∧ r.2.2.1 = 2 ∧ r.2.2.2.1 = s) → (¬ k2 = 2 → r.1 = 0 ∧ r.2.2.1 = 1 ∧ r.2.2.2.1 = s2) →
      zw (zb (fn_X12_digits n a2 bg 0 wa g) (fun o_12 => (zj (fun (s_16 : Int64) => (zb (fn_X12_goesWell o_12.2.2.2.1) (fun o_17 => (zj (fun (s_21 : Int32 × Int32) => (zb (fn_X12_goesWell s_21.1) (fun o_22 => (if o_22 = 0 then (some ((0 : Int64), o_12.2.1, s, s_21.1, s_21.2)) else (some (s_16, o_12.2.1, s, s_21.1, s_21.2)))))) (fun j_21 => (if o_17 = 0 then (j_21 (o_12.2.2.2.1, o_12.2.2.2.2)) else (zb (fn_X12_isIn s_16 lq.toInt64 hi.toInt64) (fun o_28 => (if o_28 = 0 then (zb (fn_X12_faults 2 s o_12.2.2.2.1 o_12.2.2.2.2) (fun o_33 => (j_21 (o_33.1, o_33.2)))) else (j_21 (o_12.2.2.2.1, o_12.2.2.2.2))))))))))) (fun j_16 => (if m = 0 then (j_16 o_12.1) else (j_16 (-o_12.1))))))) (fun q => zVR n f g lq lo hi s fk fp wa r q) := by
    intro a2 m e2 k2 s2 v2 o2 r ha2 T2 hr1 hr2 hr3
    refine zw_zb0 (zDigM hn ha2 T2) (fun d hd => ?_)
    rcases hd with ⟨k2', v0, v1, rfl⟩ | ⟨k2', d1, d2, d3⟩
    · dsimp only
      have hx : zw (zj (fun (s_16 : Int64) => (zb (fn_X12_goesWell 0) (fun o_17 => (zj (fun (s_21 : Int32 × Int32) => (zb (fn_X12_goesWell s_21.1) (fun o_22 => (if o_22 = 0 then (some ((0 : Int64), e2, s, s_21.1, s_21.2)) else (some (s_16, e2, s, s_21.1, s_21.2)))))) (fun j_21 => (if o_17 = 0 then (j_21 (0, wa)) else (zb (fn_X12_isIn s_16 lq.toInt64 hi.toInt64) (fun o_28 => (if o_28 = 0 then (zb (fn_X12_faults 2 s 0 wa) (fun o_33 => (j_21 (o_33.1, o_33.2)))) else (j_21 (0, wa))))))))))) (fun j_16 => (if m = 0 then (j_16 v2.toInt64) else (j_16 (-v2.toInt64))))) (fun q => zVR n f g lq lo hi s fk fp wa r q) := by
        refine zw_zj (fun x => x = (if m = 0 then v2 else -v2).toInt64) (fun x hx => ?_) (fun j_16 hj16 => ?_)
        · subst hx
          simp only [zGw_0, zb_some, zIsIn, zFl_0]
          refine zw_zj (fun t => t = (0, wa) ∧ (lq ≤ (if m = 0 then v2 else -v2) ∧ (if m = 0 then v2 else -v2) ≤ hi) ∨ t = (2, s) ∧ ¬ (lq ≤ (if m = 0 then v2 else -v2) ∧ (if m = 0 then v2 else -v2) ≤ hi)) (fun t ht3 => ?_) (fun j_21 hj21 => ?_)
          · rcases ht3 with ⟨rfl, hin⟩ | ⟨rfl, hin⟩
            · dsimp only
              rw [zGw_0, zb_some, if_neg (by decide)]
              by_cases hlo : lo ≤ (if m = 0 then v2 else -v2)
              · obtain ⟨y, hy1, hy2⟩ := hr1 k2' ⟨hlo, hin.2⟩
                exact zw_some (Or.inl ⟨_, y, e2, hy1, rfl, hlo, hin.2, hy2⟩)
              · obtain ⟨y1, y2, y3⟩ := hr2 k2' (fun q => hlo q.1)
                exact zw_some (Or.inr (Or.inr ⟨y1, y2, y3, _, _, rfl, hin.1, by (first | ((try clear ht); (try clear ho); (try clear T); (try clear hsg); (try clear hj10); (try clear hj11); (try clear hdg); (try clear hx); (try clear hj16); (try clear hj21); grind) | grind)⟩))
            · dsimp only
              rw [zGw_n (by decide), zb_some, if_pos rfl]
              obtain ⟨y1, y2, y3⟩ := hr2 k2' (fun q => hin ⟨by (first | ((try clear ht); (try clear ho); (try clear T); (try clear hsg); (try clear hj10); (try clear hj11); (try clear hdg); (try clear hx); (try clear hj16); (try clear hj21); grind) | grind), q.2⟩)
              exact zw_some (Or.inr (Or.inl ⟨y1, show ¬ (2 : Int32) = 0 by decide, y2, y3⟩))
          · refine zw_if (fun q => absurd q (by decide)) (fun _ => ?_)
            refine zw_if (fun q => ?_) (fun q => ?_)
            · have q1 := zIf0 q
              rw [z64_le, z64_le] at q1
              exact hj21 _ (Or.inr ⟨rfl, q1⟩)
            · have q1 := zIf1 q
              rw [z64_le, z64_le] at q1
              exact hj21 _ (Or.inl ⟨rfl, q1⟩)
        · refine zw_if (fun q => hj16 _ (by rw [if_pos q])) (fun q => hj16 _ (by rw [if_neg q]; exact zNeg64 v0 v1))
      exact hx
    · obtain ⟨x1, x2, x3, x4, x5⟩ := d
      dsimp only at d1 d2 d3 ⊢
      subst d2
      obtain ⟨y1, y2, y3⟩ := hr3 k2'
      simp only [zGw_n (show ¬ (1 : Int32) = 0 by decide), zb_some, if_true, zj, ite_self]
      exact zw_some (Or.inr (Or.inl ⟨y1, show ¬ (1 : Int32) = 0 by decide, y2, y3.trans d3.symm⟩))
  unfold fn_X5_readValue
  simp only [fn_X5_stopAt, zb_some, zIsSign]
  refine zw_zj (fun t => t = 0 ∧ ¬ (k = 3 ∧ v = 45) ∨ t = 1 ∧ (k = 3 ∧ v = 45)) (fun t ht1 => ?_) (fun j_1 hj1 => ?_)
  · refine zw_zj (fun w => (t = 0 ∧ w = (e, k, s, v, o)) ∨ (t = 1 ∧ zNext n f g e w)) (fun w hw => ?_) (fun j_2 hj2 => ?_)
    · have hw2 : ∃ a2, (t = 0 ∧ a2 = s ∨ t = 1 ∧ a2 = e) ∧ zNext n f g a2 w := by
        rcases hw with ⟨w1, rfl⟩ | ⟨w1, w2⟩
        · exact ⟨s, Or.inl ⟨w1, rfl⟩, ⟨(zTok_b ha T).1, (zTok_b ha T).2.1⟩, zTok_s T⟩
        · exact ⟨e, Or.inr ⟨w1, rfl⟩, w2⟩
      obtain ⟨a2, ha2, ha3, T2⟩ := hw2
      obtain ⟨e2, k2, s2, v2, o2⟩ := w
      dsimp only at T2 ⊢
      have hgo : ∀ r : Int32 × Int32 × Int32 × Int32 × Int32 × Int32 × Int32 × Int32 × Int32, (k2 = 2 → (lo ≤ (if t = 0 then v2 else -v2) ∧ (if t = 0 then v2 else -v2) ≤ hi) → ∃ y, r = (1, (if t = 0 then v2 else -v2), fk, fp, y) ∧ zNext n f g e2 y) → (k2 = 2 → ¬ (lo ≤ (if t = 0 then v2 else -v2) ∧ (if t = 0 then v2 else -v2) ≤ hi) → r.1 = 0 ∧ r.2.2.1 = 2 ∧ r.2.2.2.1 = s) → (¬ k2 = 2 → r.1 = 0 ∧ r.2.2.1 = 1 ∧ r.2.2.2.1 = s2) → zw (fn_X12_signed lq.toInt64 hi.toInt64 n a bg 0 wa g) (fun q => zVR n f g lq lo hi s fk fp wa r q) := by
        intro r h1 h2 h3
        refine hsg _ (fun a3 m hm => ?_)
        have hmt : m = t := by
          rcases ht1 with ⟨t0, t1⟩ | ⟨t0, t1⟩
          · rcases hm with ⟨m0, _, _⟩ | ⟨_, _, m1⟩
            · rw [t0, m0]
            · exact absurd m1 t1
          · rcases hm with ⟨_, _, m1⟩ | ⟨m0, _, _⟩
            · exact absurd t1 m1
            · rw [t0, m0]
        have hat : a3 = a2 := by
          rcases hm with ⟨m0, m1, _⟩ | ⟨m0, m1, _⟩
          · rcases ha2 with ⟨_, q⟩ | ⟨q, _⟩
            · rw [m1, q]
            · rw [hmt, q] at m0; exact absurd m0 (by decide)
          · rcases ha2 with ⟨q, _⟩ | ⟨_, q⟩
            · rw [hmt, q] at m0; exact absurd m0 (by decide)
            · rw [m1, q]
        rw [hmt, hat]
        exact hdg a2 t e2 k2 s2 v2 o2 r ha3 T2 h1 h2 h3
      refine zw_if (fun c => ?_) (fun c => ?_)
      · refine zw_zj (fun y => y = (if t = 0 then v2 else -v2)) (fun y hy => ?_) (fun j_4 hj4 => ?_)
        · subst hy
          refine zw_if (fun d => ?_) (fun d => ?_)
          · exact zw_some (hgo _ (fun _ q => absurd q.1 (by (first | ((try clear ht); (try clear ho); (try clear T); (try clear hsg); (try clear hj10); (try clear hj11); (try clear hdg); (try clear hx); (try clear hj16); (try clear hj21); (try clear hj1); (try clear hj2); (try clear hgo); (try clear hj4); grind) | grind))) (fun _ _ => ⟨rfl, rfl, rfl⟩) (fun q => absurd c q))
          refine zw_if (fun d2 => ?_) (fun d2 => ?_)
          · refine zw_zb0 (zAdvN hn ha3 ht ho T2 (Or.inr (Or.inl c))) (fun z hz => ?_)
            exact zw_some (hgo _ (fun _ _ => ⟨z, rfl, (zTok_nx hn ha3 T2 (Or.inr (Or.inl c))).1, hz⟩) (fun _ q => absurd ⟨by (first | ((try clear ht); (try clear ho); (try clear T); (try clear hsg); (try clear hj10); (try clear hj11); (try clear hdg); (try clear hx); (try clear hj16); (try clear hj21); (try clear hj1); (try clear hj2); (try clear hgo); (try clear hj4); grind) | grind), d2⟩ q) (fun q => absurd c q))
          · exact zw_some (hgo _ (fun _ q => absurd q.2 d2) (fun _ _ => ⟨rfl, rfl, rfl⟩) (fun q => absurd c q))
        · exact zw_if (fun q => hj4 _ (by rw [if_pos q])) (fun q => hj4 _ (by rw [if_neg q]))
      · exact zw_some (hgo _ (fun q => absurd q c) (fun q => absurd q c) (fun _ => ⟨rfl, rfl, rfl⟩))
    · rcases ht1 with ⟨t0, t1⟩ | ⟨t0, t1⟩
      · exact zw_if (fun _ => hj2 _ (Or.inl ⟨t0, rfl⟩)) (fun q => absurd t0 q)
      · refine zw_if (fun q => absurd (t0.symm.trans q) (by decide)) (fun _ => ?_)
        refine zw_zb0 (zAdvN hn ha ht ho T (Or.inr (Or.inr t1.1))) (fun z hz => ?_)
        exact hj2 _ (Or.inr ⟨t0, (zTok_nx hn ha T (Or.inr (Or.inr t1.1))).1, hz⟩)
  · refine zw_zj (fun _ => ¬ (k = 3 ∧ v = 45)) (fun _ q => hj1 0 (Or.inl ⟨rfl, q⟩)) (fun j_29 hj29 => ?_)
    refine zw_if (fun q => absurd q (by decide)) (fun _ => ?_)
    exact zw_if (fun q => hj29 () (zIf0 q)) (fun q => hj1 1 (Or.inr ⟨rfl, zIf1 q⟩))
/-! names that are told already -/
noncomputable def zFst (cnt : Int32) (P : Int32 → Prop) (r : Int32) : Prop := r = (-1) ∧ (∀ i : Int32, 0 ≤ i → i < cnt → ¬ P i) ∨ 0 ≤ r ∧ r < cnt ∧ P r ∧ (∀ i : Int32, 0 ≤ i → i < r → ¬ P i)
theorem zFst_un {cnt r q : Int32} {P P' : Int32 → Prop} (h : zFst cnt P r) (h' : zFst cnt P' q) (e : ∀ i : Int32, 0 ≤ i → i < cnt → (P i ↔ P' i)) : r = q := by
  rcases h with ⟨h1, h2⟩ | ⟨h1, h2, h3, h4⟩
  · rcases h' with ⟨k1, k2⟩ | ⟨k1, k2, k3, k4⟩
    · rw [h1, k1]
    · exact absurd ((e q k1 k2).mpr k3) (h2 q k1 k2)
  · rcases h' with ⟨k1, k2⟩ | ⟨k1, k2, k3, k4⟩
    · exact absurd ((e r h1 h2).mp h3) (k2 r h1 h2)
    · by_cases c : r < q
      · exact absurd ((e r h1 h2).mp h3) (k4 r h1 c)
      · by_cases d : q < r
        · exact absurd ((e q k1 k2).mpr k3) (h4 q k1 d)
        · (first | ((try clear h); (try clear h'); (try clear e); grind) | grind)
theorem zFindF {p cnt : Int32} {f1 : Nat → Int32} (hc : 0 ≤ cnt ∧ cnt ≤ 4) : zw (fn_X9_findFormat p cnt f1) (fun r => zFst cnt (fun i => f1 i.toNatClampNeg = p) r) := by
  unfold fn_X9_findFormat
  refine zw_zl32 (fun t => 0 ≤ t ∧ t ≤ cnt ∧ (∀ i : Int32, 0 ≤ i → i < t → ¬ f1 i.toNatClampNeg = p)) (fun t => cnt - t) ⟨by decide, hc.1, fun i h1 h2 => by grind⟩ (by (try dsimp only); grind) (fun t back H h => ?_)
  obtain ⟨H1, H2, H3⟩ := H
  refine zw_if (fun c => zw_some (Or.inl ⟨rfl, fun i h1 h2 => H3 i h1 (by grind)⟩)) (fun c => ?_)
  refine zw_zg32 4 (by decide) (by grind) ?_
  refine zw_if (fun d => zw_some (Or.inr ⟨H1, by grind, d, H3⟩)) (fun d => ?_)
  refine h _ ⟨by grind, by grind, fun i h1 h2 => ?_⟩ (by (try dsimp only); grind) (by (try dsimp only); grind)
  by_cases q : i = t
  · rw [q]; exact d
  · exact H3 i h1 (by grind)
theorem zFindN {p cnt : Int32} {f1 : Nat → Int32} (hc : 0 ≤ cnt ∧ cnt ≤ 14) : zw (fn_X4_find p cnt f1) (fun r => zFst cnt (fun i => f1 i.toNatClampNeg = p) r) := by
  unfold fn_X4_find
  refine zw_zl32 (fun t => 0 ≤ t ∧ t ≤ cnt ∧ (∀ i : Int32, 0 ≤ i → i < t → ¬ f1 i.toNatClampNeg = p)) (fun t => cnt - t) ⟨by decide, hc.1, fun i h1 h2 => by grind⟩ (by (try dsimp only); grind) (fun t back H h => ?_)
  obtain ⟨H1, H2, H3⟩ := H
  refine zw_if (fun c => zw_some (Or.inl ⟨rfl, fun i h1 h2 => H3 i h1 (by grind)⟩)) (fun c => ?_)
  refine zw_zg32 14 (by decide) (by grind) ?_
  refine zw_if (fun d => zw_some (Or.inr ⟨H1, by grind, d, H3⟩)) (fun d => ?_)
  refine h _ ⟨by grind, by grind, fun i h1 h2 => ?_⟩ (by (try dsimp only); grind) (by (try dsimp only); grind)
  by_cases q : i = t
  · rw [q]; exact d
  · exact H3 i h1 (by grind)
theorem zFindFM {p : Int32} {f1 f2 : Nat → Int32} (hc : 0 ≤ f1 1 ∧ f1 1 ≤ 4) : zw (fn_X12_formatNamed p 1 f1 f2) (fun r => zFst (f1 1) (fun i => f2 (4 + i).toNatClampNeg = p) r) := by
  unfold fn_X12_formatNamed
  simp only [fn_X12_f, zb_some]
  rw [show (4 * 1 : Int32) = 4 by decide +kernel, show (1 : Int32).toNatClampNeg = 1 by decide +kernel]
  refine zw_zl32 (fun t => 0 ≤ t ∧ t ≤ f1 1 ∧ (∀ i : Int32, 0 ≤ i → i < t → ¬ f2 (4 + i).toNatClampNeg = p)) (fun t => f1 1 - t) ⟨by decide, hc.1, fun i h1 h2 => by grind⟩ (by (try dsimp only); grind) (fun t back H h => ?_)
  obtain ⟨H1, H2, H3⟩ := H
  refine zw_zg32 2 (by decide) (by decide) ?_
  refine zw_if (fun c => zw_some (Or.inl ⟨rfl, fun i h1 h2 => H3 i h1 (by grind)⟩)) (fun c => ?_)
  refine zw_zg32 8 (by decide) (by grind) ?_
  refine zw_if (fun d => zw_some (Or.inr ⟨H1, by grind, d, H3⟩)) (fun d => ?_)
  refine h _ ⟨by grind, by grind, fun i h1 h2 => ?_⟩ (by (try dsimp only); grind) (by (try dsimp only); grind)
  by_cases q : i = t
  · rw [q]; exact d
  · exact H3 i h1 (by grind)
theorem zFindNM {p : Int32} {f1 f2 : Nat → Int32} (hc : 0 ≤ f1 1 ∧ f1 1 ≤ 14) : zw (fn_X12_numberNamed p 1 f1 f2) (fun r => zFst (f1 1) (fun i => f2 (14 + i).toNatClampNeg = p) r) := by
  unfold fn_X12_numberNamed
  simp only [fn_X12_n, zb_some]
  rw [show (14 * 1 : Int32) = 14 by decide +kernel, show (1 : Int32).toNatClampNeg = 1 by decide +kernel]
  refine zw_zl32 (fun t => 0 ≤ t ∧ t ≤ f1 1 ∧ (∀ i : Int32, 0 ≤ i → i < t → ¬ f2 (14 + i).toNatClampNeg = p)) (fun t => f1 1 - t) ⟨by decide, hc.1, fun i h1 h2 => by grind⟩ (by (try dsimp only); grind) (fun t back H h => ?_)
  obtain ⟨H1, H2, H3⟩ := H
  refine zw_zg32 2 (by decide) (by decide) ?_
  refine zw_if (fun c => zw_some (Or.inl ⟨rfl, fun i h1 h2 => H3 i h1 (by grind)⟩)) (fun c => ?_)
  refine zw_zg32 28 (by decide) (by grind) ?_
  refine zw_if (fun d => zw_some (Or.inr ⟨H1, by grind, d, H3⟩)) (fun d => ?_)
  refine h _ ⟨by grind, by grind, fun i h1 h2 => ?_⟩ (by (try dsimp only); grind) (by (try dsimp only); grind)
  by_cases q : i = t
  · rw [q]; exact d
  · exact H3 i h1 (by grind)
/-! class and reference, a name each -/
noncomputable def zNR (d cnt : Int32) (c m : Nat → Int32) : Prop := ∀ i : Int32, 0 ≤ i → i < cnt → zNm (c i.toNatClampNeg) (m (d + i).toNatClampNeg)
theorem zNewName_n {w : Int32} (hw : ¬ w = 0) (n a bg wa i : Int32) (f1 f2 f3 f4 f5 f6 : Nat → Int32) : fn_X12_newName n a bg w wa i f1 f2 f3 f4 f5 f6 = some (0, a, bg, w, wa) := by
  unfold fn_X12_newName
  simp only [zName_n hw, zb_some, zGw_n hw, if_true]
theorem zTold_n {w : Int32} (hw : ¬ w = 0) (n a bg wa i : Int32) (f1 f2 f3 f4 : Nat → Int32) : fn_X12_toldNumber n a bg w wa i f1 f2 f3 f4 = some (0, a, bg, w, wa) := by
  unfold fn_X12_toldNumber
  simp only [zName_n hw, zb_some, zGw_n hw, if_true, zj]
theorem zNewName {n a e k s v o got fk fp bg wa cF cN : Int32} {f g own tab nF nN : Nat → Int32} {mF mNF mN mNN : Nat → Int32} (hn : n ≤ 1200) (ha : 0 ≤ a ∧ a ≤ n) (ht : zTp f g) (ho : ∀ w : Nat, w < 13 → own w = zOwT w) (hT : (∀ k : Nat, k < 71 → tab k = zTab k)) (T : zTok n f g a e k s v o) (hF : mF 1 = cF ∧ 0 ≤ cF ∧ cF ≤ 4) (hN : mN 1 = cN ∧ 0 ≤ cN ∧ cN ≤ 14) (hnf : zNR 4 cF nF mNF) (hnn : zNR 14 cN nN mNN) :
    zw (fn_X5_readNewName got fk fp n e k s v o cF nF cN nN f own) (fun r => zw (fn_X12_newName n a bg 0 wa 1 g tab mF mNF mN mNN) (fun q => (∃ y, r = (1, v, fk, fp, y) ∧ zNm v q.1 ∧ q.2 = (e, s, 0, wa) ∧ zNext n f g e y) ∨ zStop r.1 r.2.2.1 r.2.2.2.1 q.2.2.2.1 q.2.2.2.2)) := by
  unfold fn_X5_readNewName fn_X12_newName
  simp only [fn_X5_stopAt, zb_some, zIsName]
  refine zw_if (fun c => ?_) (fun c => ?_)
  · have c := zIf0 c
    refine zw_some ?_
    refine zw_zb0 (zNameM hn ha T hT) (fun q hq => ?_)
    rcases hq with ⟨q1, _⟩ | ⟨_, q2, q3, q4⟩
    · exact absurd q1 c
    · rw [q3, zGw_n (by decide), zb_some, if_pos rfl]
      exact zw_some (Or.inr ⟨rfl, show ¬ (1 : Int32) = 0 by decide, rfl, q4.symm⟩)
  have c := zIf1 c
  refine zw_zb0 (zFindF hF.2) (fun r1 hr1 => ?_)
  have hgo : ∀ (r : Int32 × Int32 × Int32 × Int32 × Int32 × Int32 × Int32 × Int32 × Int32), (r1 = (-1) → ∀ r2, zFst cN (fun i => nN i.toNatClampNeg = v) r2 → (r2 = (-1) → ∃ y, r = (1, v, fk, fp, y) ∧ zNext n f g e y) ∧ (¬ r2 = (-1) → r.1 = 0 ∧ r.2.2.1 = 3 ∧ r.2.2.2.1 = s)) → (¬ r1 = (-1) → r.1 = 0 ∧ r.2.2.1 = 3 ∧ r.2.2.2.1 = s) → zw (zb (fn_X12_name n a bg 0 wa g tab) (fun o_1 => (zb (fn_X12_goesWell o_1.2.2.2.1) (fun o_5 => (if o_5 = 0 then (some (o_1.1, o_1.2.1, o_1.2.2.1, o_1.2.2.2.1, o_1.2.2.2.2)) else (zb (fn_X12_formatNamed o_1.1 1 mF mNF) (fun o_10 => (if o_10 = (-1) then (zb (fn_X12_numberNamed o_1.1 1 mN mNN) (fun o_19 => (if o_19 = (-1) then (some (o_1.1, o_1.2.1, o_1.2.2.1, o_1.2.2.2.1, o_1.2.2.2.2)) else (zb (fn_X12_faults 3 o_1.2.2.1 o_1.2.2.2.1 o_1.2.2.2.2) (fun o_24 => (some (o_1.1, o_1.2.1, o_1.2.2.1, o_24.1, o_24.2))))))) else (zb (fn_X12_faults 3 o_1.2.2.1 o_1.2.2.2.1 o_1.2.2.2.2) (fun o_15 => (some (o_1.1, o_1.2.1, o_1.2.2.1, o_15.1, o_15.2)))))))))))) (fun q => (∃ y, r = (1, v, fk, fp, y) ∧ zNm v q.1 ∧ q.2 = (e, s, 0, wa) ∧ zNext n f g e y) ∨ zStop r.1 r.2.2.1 r.2.2.2.1 q.2.2.2.1 q.2.2.2.2) := by
    intro r h1 h2
    refine zw_zb0 (zNameM hn ha T hT) (fun q hq => ?_)
    obtain ⟨m, q⟩ := q
    rcases hq with ⟨_, q2, q3⟩ | ⟨q1, _⟩
    · dsimp only at q2 q3 ⊢
      subst q3
      dsimp only
      rw [zGw_0, zb_some, if_neg (by decide)]
      refine zw_zb0 (zFindFM (by rw [hF.1]; exact hF.2)) (fun m1 hm1 => ?_)
      rw [hF.1] at hm1
      have e1 : r1 = m1 := zFst_un hr1 hm1 (fun i i1 i2 => zNm_eq (hnf i i1 i2) q2)
      subst e1
      refine zw_if (fun d => ?_) (fun d => ?_)
      · refine zw_zb0 (zFindNM (by rw [hN.1]; exact hN.2)) (fun m2 hm2 => ?_)
        rw [hN.1] at hm2
        have hm3 : zFst cN (fun i => nN i.toNatClampNeg = v) m2 := by
          rcases hm2 with ⟨w1, w2⟩ | ⟨w1, w2, w3, w4⟩
          · exact Or.inl ⟨w1, fun i i1 i2 q => w2 i i1 i2 ((zNm_eq (hnn i i1 i2) q2).mp q)⟩
          · exact Or.inr ⟨w1, w2, (zNm_eq (hnn m2 w1 w2) q2).mpr w3, fun i i1 i2 q => w4 i i1 i2 ((zNm_eq (hnn i i1 (by (first | ((try clear ht); (try clear ho); (try clear hT); (try clear T); (try clear hnf); (try clear hnn); (try clear hgo); grind) | grind))) q2).mp q)⟩
        obtain ⟨z1, z2⟩ := h1 d m2 hm3
        refine zw_if (fun d2 => ?_) (fun d2 => ?_)
        · obtain ⟨y, y1, y2⟩ := z1 d2
          exact zw_some (Or.inl ⟨y, y1, q2, rfl, y2⟩)
        · rw [zFl_0, zb_some]
          obtain ⟨y1, y2, y3⟩ := z2 d2
          exact zw_some (Or.inr ⟨y1, show ¬ (3 : Int32) = 0 by decide, y2, y3⟩)
      · rw [zFl_0, zb_some]
        obtain ⟨y1, y2, y3⟩ := h2 d
        exact zw_some (Or.inr ⟨y1, show ¬ (3 : Int32) = 0 by decide, y2, y3⟩)
    · exact absurd c q1
  refine zw_if (fun d => ?_) (fun d => ?_)
  · refine zw_zb0 (zFindN hN.2) (fun r2 hr2 => ?_)
    have hu : ∀ r3, zFst cN (fun i => nN i.toNatClampNeg = v) r3 → r3 = r2 := fun r3 h3 => zFst_un h3 hr2 (fun _ _ _ => Iff.rfl)
    refine zw_if (fun d2 => ?_) (fun d2 => ?_)
    · refine zw_zb0 (zAdvN hn ha ht ho T (Or.inl c.1)) (fun z hz => ?_)
      exact zw_some (hgo _ (fun _ r3 h3 => ⟨fun _ => ⟨z, rfl, (zTok_nx hn ha T (Or.inl c.1)).1, hz⟩, fun q => absurd ((hu r3 h3).trans d2) q⟩) (fun q => absurd d q))
    · exact zw_some (hgo _ (fun _ r3 h3 => ⟨fun q => absurd ((hu r3 h3).symm.trans q) d2, fun _ => ⟨rfl, rfl, rfl⟩⟩) (fun q => absurd d q))
  · exact zw_some (hgo _ (fun q => absurd q d) (fun _ => ⟨rfl, rfl, rfl⟩))
theorem zRKnown {n a e k s v o p got fk fp : Int32} {f g own : Nat → Int32} (hn : n ≤ 1200) (ha : 0 ≤ a ∧ a ≤ n) (ht : zTp f g) (ho : ∀ w : Nat, w < 13 → own w = zOwT w) (T : zTok n f g a e k s v o) : zw (fn_X5_readKnown p got fk fp n e k s v o f own) (fun r => (k = 1 ∧ o = (-1)) ∧ ¬ p = (-1) ∧ (∃ y, r = (1, p, fk, fp, y) ∧ zNext n f g e y) ∨ (k = 1 ∧ o = (-1)) ∧ p = (-1) ∧ r = (0, got, 3, s, e, k, s, v, o) ∨ ¬ (k = 1 ∧ o = (-1)) ∧ r = (0, got, 1, s, e, k, s, v, o)) := by
  unfold fn_X5_readKnown
  simp only [fn_X5_stopAt, zb_some, zIsName]
  refine zw_if (fun c => zw_some (Or.inr (Or.inr ⟨zIf0 c, rfl⟩))) (fun c => ?_)
  have c := zIf1 c
  refine zw_if (fun d => zw_some (Or.inr (Or.inl ⟨c, d, rfl⟩))) (fun d => ?_)
  refine zw_zb0 (zAdvN hn ha ht ho T (Or.inl c.1)) (fun z hz => ?_)
  exact zw_some (Or.inl ⟨c, d, z, rfl, (zTok_nx hn ha T (Or.inl c.1)).1, hz⟩)
/-- a NUMBER's name, told already -/
theorem zTold {n a e k s v o got fk fp bg wa cN : Int32} {f g own tab nN : Nat → Int32} {mN mNN : Nat → Int32} (hn : n ≤ 1200) (ha : 0 ≤ a ∧ a ≤ n) (ht : zTp f g) (ho : ∀ w : Nat, w < 13 → own w = zOwT w) (hT : (∀ k : Nat, k < 71 → tab k = zTab k)) (T : zTok n f g a e k s v o) (hN : mN 1 = cN ∧ 0 ≤ cN ∧ cN ≤ 14) (hnn : zNR 14 cN nN mNN) :
    zw (fn_X4_find v cN nN) (fun p => zw (fn_X5_readKnown p got fk fp n e k s v o f own) (fun r => zw (fn_X12_toldNumber n a bg 0 wa 1 g tab mN mNN) (fun q => (k = 1 ∧ ∃ y, r = (1, p, fk, fp, y) ∧ 0 ≤ p ∧ p < cN ∧ q = (p, e, s, 0, wa) ∧ zNext n f g e y) ∨ zStop r.1 r.2.2.1 r.2.2.2.1 q.2.2.2.1 q.2.2.2.2))) := by
  refine zw_mono (zFindN hN.2) (fun p hp => ?_)
  refine zw_mono (zRKnown hn ha ht ho T) (fun r hr => ?_)
  unfold fn_X12_toldNumber
  refine zw_zb0 (zNameM hn ha T hT) (fun q hq => ?_)
  obtain ⟨m, q⟩ := q
  rcases hq with ⟨q1, q2, q3⟩ | ⟨q1, q2, q3, q4⟩
  · dsimp only at q2 q3 ⊢
    subst q3
    dsimp only
    simp only [zGw_0, zb_some]
    refine zw_zj (fun x => x = p) (fun x hx => ?_) (fun j_9 hj9 => ?_)
    · subst hx
      refine zw_if (fun c => absurd c (by decide)) (fun _ => ?_)
      refine zw_if (fun c => ?_) (fun c => ?_)
      · simp only [zFl_0, zb_some, zGw_n (show ¬ (3 : Int32) = 0 by decide), if_true]
        rcases hr with ⟨_, r2, _⟩ | ⟨_, _, rfl⟩ | ⟨r1, _⟩
        · exact absurd c r2
        · exact zw_some (Or.inr ⟨rfl, show ¬ (3 : Int32) = 0 by decide, rfl, rfl⟩)
        · exact absurd q1 r1
      · refine zw_if (fun c => absurd c (by decide)) (fun _ => ?_)
        rcases hr with ⟨_, r2, y, rfl, r4⟩ | ⟨_, r2, _⟩ | ⟨r1, _⟩
        · rcases hp with ⟨p1, _⟩ | ⟨p1, p2, _⟩
          · exact absurd p1 c
          · exact zw_some (Or.inl ⟨q1.1, y, rfl, p1, p2, rfl, r4⟩)
        · exact absurd r2 c
        · exact absurd q1 r1
    · refine zw_if (fun c => absurd c (by decide)) (fun _ => ?_)
      refine zw_zb0 (zFindNM (by rw [hN.1]; exact hN.2)) (fun m2 hm2 => ?_)
      rw [hN.1] at hm2
      exact hj9 _ (zFst_un hp hm2 (fun i i1 i2 => zNm_eq (hnn i i1 i2) q2)).symm
  · obtain ⟨x2, x3, x4, x5⟩ := q
    dsimp only at q3 q4 ⊢
    subst q3
    simp only [zGw_n (show ¬ (1 : Int32) = 0 by decide), zb_some, if_true, zj]
    rcases hr with ⟨r1, _⟩ | ⟨r1, _⟩ | ⟨_, rfl⟩
    · exact absurd r1 q1
    · exact absurd r1 q1
    · exact zw_some (Or.inr ⟨rfl, show ¬ (1 : Int32) = 0 by decide, rfl, q4.symm⟩)
theorem zNot45 {n a e k s v o : Int32} {f g : Nat → Int32} (ht : zTp f g) (ha : 0 ≤ a ∧ a ≤ n) (T : zTok n f g a e k s v o) : (zB n g s = 45 ∨ zK n g s = 2) → ¬ k = 1 := by
  intro h q
  have hw := zTok_k1 T q
  rcases h with h | h
  · have := (zTok_c ht ha T 45 (by decide +kernel)).mpr h
    exact absurd (q.symm.trans this.1) (by decide)
  · exact absurd (hw.1.symm.trans h) (by decide)
theorem zWhat_n {w : Int32} (hw : ¬ w = 0) (n a bg wa i : Int32) (f1 f2 f3 f4 : Nat → Int32) : fn_X12_readsWhat n a bg w wa i f1 f2 f3 f4 = some (0, 0, a, bg, w, wa) := by
  unfold fn_X12_readsWhat
  simp only [zGw_n hw, zb_some, if_true, zTold_n hw]
/-- what a side of a NUMBER's row becomes -/
noncomputable def zPut (side m x cN : Int32) (f6 f7 : Nat → Int32) (F6 F7 : Nat → Int32) : Prop := F6 = upd f6 (2 * cN + side).toNatClampNeg m ∧ F7 = upd f7 (2 * cN + side).toNatClampNeg x
theorem zPrep {side m x cN : Int32} {f6 f7 : Nat → Int32} (hc : 0 ≤ cN ∧ cN < 14) (hs : side = 0 ∨ side = 1) : fn_X4_prepare side m x cN f6 f7 = some (upd f6 (2 * cN + side).toNatClampNeg m, upd f7 (2 * cN + side).toNatClampNeg x) := by
  unfold fn_X4_prepare
  rw [if_neg (by grind)]
  unfold zj
  dsimp only
  rw [zg_in 28 (by decide +kernel) (by grind)]
  rcases hs with rfl | rfl
  · rw [if_pos rfl]
  · rw [if_neg (by decide), if_pos rfl]
set_option maxHeartbeats 1000000 in
theorem zWhat {n a e k s v o got fk fp bg wa cN side : Int32} {f g own tab nN f6 f7 : Nat → Int32} {mN mNN : Nat → Int32} (hn : n ≤ 1200) (ha : 0 ≤ a ∧ a ≤ n) (ht : zTp f g) (ho : ∀ w : Nat, w < 13 → own w = zOwT w) (hT : (∀ k : Nat, k < 71 → tab k = zTab k)) (T : zTok n f g a e k s v o) (hN : mN 1 = cN ∧ 0 ≤ cN ∧ cN < 14) (hnn : zNR 14 cN nN mNN) (hs : side = 0 ∨ side = 1) :
    zw (fn_X5_readWhat side got fk fp n e k s v o f own cN f6 f7 nN) (fun r => zw (fn_X12_readsWhat n a bg 0 wa 1 g tab mN mNN) (fun q => (∃ m x g' e' k' s' v' o' z b', r = (1, g', fk, fp, e', k', s', v', o', upd f6 (2 * cN + side).toNatClampNeg m, upd f7 (2 * cN + side).toNatClampNeg x) ∧ q = (m, x.toInt64, z, b', 0, wa) ∧ (-1) ≤ m ∧ m < cN ∧ (-1000000) ≤ x ∧ x ≤ 1000000 ∧ zNext n f g z (e', k', s', v', o')) ∨ zStop r.1 r.2.2.1 r.2.2.2.1 q.2.2.2.2.1 q.2.2.2.2.2)) := by
  have Ts := zTok_s T
  have hb := zTok_b ha T
  have hsr : 0 ≤ s ∧ s ≤ n := ⟨hb.1, hb.2.1⟩
  -- the reference, a name
  have hmN : ∀ (P : Int32 × Int64 × Int32 × Int32 × Int32 × Int32 → Prop), ¬ (zB n g s = 45 ∨ zK n g s = 2) → zw (zb (fn_X12_toldNumber n s bg 0 wa 1 g tab mN mNN) (fun o_24 => (some (o_24.1, (0 : Int64), o_24.2.1, o_24.2.2.1, o_24.2.2.2.1, o_24.2.2.2.2)))) P → zw (fn_X12_readsWhat n a bg 0 wa 1 g tab mN mNN) P := by
    intro P hno hP
    unfold fn_X12_readsWhat
    rw [zGw_0, zb_some, if_neg (by decide)]
    refine zw_zb0 (zHere hn ha) (fun r hr => ?_)
    obtain ⟨b, s'⟩ := r
    dsimp only at hr ⊢
    obtain ⟨h1, h2⟩ := hr
    obtain rfl : s = s' := zSk_un T.1 h1
    refine zw_if (fun c => absurd (Or.inl (by rw [← h2]; exact c)) hno) (fun c => ?_)
    rw [zDi_fn hn, zb_some]
    exact zw_if (fun c => hP) (fun c => absurd (Or.inr (zIf1 c)) hno)
  have hmV : ∀ (P : Int32 × Int64 × Int32 × Int32 × Int32 × Int32 → Prop), (zB n g s = 45 ∨ zK n g s = 2) → zw (zb (fn_X12_signed ((-1000000) : Int64) (1000000 : Int64) n s bg 0 wa g) (fun o_28 => (some (((-1) : Int32), o_28.1, o_28.2.1, o_28.2.2.1, o_28.2.2.2.1, o_28.2.2.2.2)))) P → zw (fn_X12_readsWhat n a bg 0 wa 1 g tab mN mNN) P := by
    intro P hyes hP
    unfold fn_X12_readsWhat
    rw [zGw_0, zb_some, if_neg (by decide)]
    refine zw_zb0 (zHere hn ha) (fun r hr => ?_)
    obtain ⟨b, s'⟩ := r
    dsimp only at hr ⊢
    obtain ⟨h1, h2⟩ := hr
    obtain rfl : s = s' := zSk_un T.1 h1
    refine zw_if (fun c => hP) (fun c => ?_)
    rw [zDi_fn hn, zb_some]
    refine zw_if (fun c2 => ?_) (fun c => hP)
    rcases hyes with q | q
    · exact absurd (h2.trans q) c
    · exact absurd q (zIf0 c2)
  unfold fn_X5_readWhat
  simp only [zPrep (f6 := f6) (f7 := f7) hN.2 hs, zb_some]
  refine zw_if (fun c => ?_) (fun c => ?_)
  · have hno : ¬ (zB n g s = 45 ∨ zK n g s = 2) := fun q => zNot45 ht ha T q c
    obtain ⟨p, hp1, r, hr1, q, hq1, hq⟩ := zTold (got := got) (fk := fk) (fp := fp) (bg := bg) (wa := wa) hn hsr ht ho hT Ts ⟨hN.1, hN.2.1, by (first | ((try clear ht); (try clear ho); (try clear hT); (try clear T); (try clear hnn); (try clear hb); (try clear hmN); (try clear hmV); grind) | grind)⟩ hnn
    rw [hp1, zb_some, hr1, zb_some]
    rcases hq with ⟨_, y, rfl, p1, p2, rfl, y4⟩ | hst
    · dsimp only
      rw [if_neg (by decide)]
      refine zw_some (hmN _ hno ?_)
      rw [hq1, zb_some]
      exact zw_some (Or.inl ⟨p, 0, p, y.1, y.2.1, y.2.2.1, y.2.2.2.1, y.2.2.2.2, e, s, rfl, rfl, by (first | ((try clear ht); (try clear ho); (try clear hT); (try clear T); (try clear hnn); (try clear hb); (try clear hmN); (try clear hmV); grind) | grind), p2, by decide, by decide, y4⟩)
    · obtain ⟨s1, s2, s3, s4⟩ := hst
      rw [if_pos s1]
      refine zw_some (hmN _ hno ?_)
      rw [hq1, zb_some]
      exact zw_some (Or.inr ⟨s1, s2, s3, s4⟩)
  · obtain ⟨r, hr1, q, hq1, hq⟩ := zRVal1 (lq := -1000000) (lo := -1000000) (hi := 1000000) (got := got) (fk := fk) (fp := fp) (bg := bg) (wa := wa) hn hsr ht ho Ts (by decide)
    rw [show (-1000000 : Int32).toInt64 = -1000000 by decide +kernel, show (1000000 : Int32).toInt64 = 1000000 by decide +kernel] at hq1
    rw [hr1, zb_some]
    by_cases hy : zB n g s = 45 ∨ zK n g s = 2
    · rcases hq with ⟨x, y, z, rfl, rfl, x1, x2, x3⟩ | hst
      · dsimp only
        rw [if_neg (by decide)]
        refine zw_some (hmV _ hy ?_)
        rw [hq1, zb_some]
        exact zw_some (Or.inl ⟨-1, x, x, y.1, y.2.1, y.2.2.1, y.2.2.2.1, y.2.2.2.2, z, s, rfl, rfl, by decide, by (first | ((try clear ht); (try clear ho); (try clear hT); (try clear T); (try clear hnn); (try clear hb); (try clear hmN); (try clear hmV); grind) | grind), x1, x2, x3⟩)
      · rcases hst with ⟨s1, s2, s3, s4⟩ | ⟨_, _, _, x, _, _, w1, w2⟩
        · rw [if_pos s1]
          refine zw_some (hmV _ hy ?_)
          rw [hq1, zb_some]
          exact zw_some (Or.inr ⟨s1, s2, s3, s4⟩)
        · exact absurd w2 (by (first | ((try clear ht); (try clear ho); (try clear hT); (try clear T); (try clear hnn); (try clear hb); (try clear hmN); (try clear hmV); grind) | grind))
    · -- neither name nor number: both stop where it stands
      have hv : ¬ (k = 3 ∧ v = 45) := fun q => hy (Or.inl ((zTok_c ht ha T 45 (by decide +kernel)).mp q))
      have hk2 : ¬ k = 2 := by
        intro q
        obtain ⟨_, _, _, TT⟩ := T
        rcases TT with T | T | T | T | T | T
        · exact absurd (q.symm.trans T.2.2.1) (by decide)
        · exact absurd (q.symm.trans T.2.2.1) (by decide)
        · exact absurd (q.symm.trans T.2.2.2.1) (by decide)
        · exact absurd (q.symm.trans T.2.2.2.2.1) (by decide)
        · exact absurd (q.symm.trans T.2.2.2.1) (by decide)
        · exact hy (Or.inr T.1)
      have hst : r.1 = 0 ∧ r.2.2.1 = 1 ∧ r.2.2.2.1 = s := by
        have e1 : fn_X5_readValue 1 (-1000000) 1000000 got fk fp n e k s v o f own = some (0, got, 1, s, e, k, s, v, o) := by
          unfold fn_X5_readValue
          simp only [fn_X5_stopAt, zb_some, zIsSign, zj, if_neg hv, if_true, if_neg hk2, if_neg (show ¬ (1 : Int32) = 0 by decide)]
        rw [e1] at hr1
        have := Option.some.inj hr1
        subst this
        exact ⟨rfl, rfl, rfl⟩
      rw [if_pos hst.1]
      refine zw_some (hmN _ hy ?_)
      unfold fn_X12_toldNumber
      obtain ⟨q, hq2, hq3⟩ := zNameM (bg := bg) (wa := wa) hn hsr Ts hT
      rw [hq2, zb_some]
      rcases hq3 with ⟨w1, _⟩ | ⟨_, w2, w3, w4⟩
      · exact absurd w1.1 c
      · obtain ⟨x1, x2, x3, x4, x5⟩ := q
        dsimp only at w3 w4 ⊢
        subst w3
        simp only [zGw_n (show ¬ (1 : Int32) = 0 by decide), zb_some, if_true, zj]
        exact zw_some (Or.inr ⟨hst.1, show ¬ (1 : Int32) = 0 by decide, hst.2.1, hst.2.2.trans w4.symm⟩)
theorem zOp_n {w : Int32} (hw : ¬ w = 0) (n a bg wa : Int32) (f1 f2 : Nat → Int32) : fn_X12_readsOp n a bg w wa f1 f2 = some (0, a, bg, w, wa) := by
  unfold fn_X12_readsOp
  rw [zGw_n hw, zb_some, if_pos rfl]
set_option maxHeartbeats 1000000 in
theorem zOp {n a e k s v o got fk fp bg wa : Int32} {f g own tab : Nat → Int32} (hn : n ≤ 1200) (ha : 0 ≤ a ∧ a ≤ n) (ht : zTp f g) (ho : ∀ w : Nat, w < 13 → own w = zOwT w) (hT : (∀ k : Nat, k < 71 → tab k = zTab k)) (T : zTok n f g a e k s v o) :
    zw (fn_X5_readOp got fk fp n e k s v o f own) (fun r => zw (fn_X12_readsOp n a bg 0 wa g tab) (fun q => (∃ x y b', r = (1, x, fk, fp, y) ∧ q = (x, e, b', 0, wa) ∧ 1 ≤ x ∧ x ≤ 5 ∧ zNext n f g e y) ∨ zStop r.1 r.2.2.1 r.2.2.2.1 q.2.2.2.1 q.2.2.2.2)) := by
  have Ts := zTok_s T
  have hb := zTok_b ha T
  have hsr : 0 ≤ s ∧ s ≤ n := ⟨hb.1, hb.2.1⟩
  have c43 := zTok_c ht ha T 43 (by decide +kernel)
  have c45 := zTok_c ht ha T 45 (by decide +kernel)
  have c42 := zTok_c ht ha T 42 (by decide +kernel)
  -- the reference: a sign
  have hsg : ∀ (r : Int32 × Int32 × Int32 × Int32 × Int32 × Int32 × Int32 × Int32 × Int32) (c x : Int32), (c = 43 ∧ x = 1 ∨ c = 45 ∧ x = 2 ∨ c = 42 ∧ x = 3) → (k = 3 ∧ v = c) → (∃ y, r = (1, x, fk, fp, y) ∧ zNext n f g e y) → zw (fn_X12_readsOp n a bg 0 wa g tab) (fun q => (∃ x y b', r = (1, x, fk, fp, y) ∧ q = (x, e, b', 0, wa) ∧ 1 ≤ x ∧ x ≤ 5 ∧ zNext n f g e y) ∨ zStop r.1 r.2.2.1 r.2.2.2.1 q.2.2.2.1 q.2.2.2.2) := by
    intro r c x hcx hkv ⟨y, hy1, hy2⟩
    have hB : zB n g s = c := by
      rcases hcx with ⟨q, _⟩ | ⟨q, _⟩ | ⟨q, _⟩
      · rw [q] at hkv ⊢; exact c43.mp hkv
      · rw [q] at hkv ⊢; exact c45.mp hkv
      · rw [q] at hkv ⊢; exact c42.mp hkv
    unfold fn_X12_readsOp
    rw [zGw_0, zb_some, if_neg (by decide)]
    refine zw_zb0 (zHere hn ha) (fun t hr => ?_)
    obtain ⟨b, s'⟩ := t
    dsimp only at hr ⊢
    obtain ⟨h1, h2⟩ := hr
    obtain rfl : s = s' := zSk_un T.1 h1
    rw [hB] at h2
    subst h2
    have e3 := zTok_3 T hkv.1
    unfold zj
    dsimp only
    rcases hcx with ⟨rfl, rfl⟩ | ⟨rfl, rfl⟩ | ⟨rfl, rfl⟩
    · rw [if_pos rfl, if_pos rfl]
      exact zw_some (Or.inl ⟨1, y, bg, hy1, by rw [e3], by decide, by decide, hy2⟩)
    · rw [if_neg (by decide), if_pos rfl, if_neg (by decide), if_pos rfl]
      exact zw_some (Or.inl ⟨2, y, bg, hy1, by rw [e3], by decide, by decide, hy2⟩)
    · rw [if_neg (by decide), if_neg (by decide), if_pos rfl, if_neg (by decide), if_neg (by decide)]
      exact zw_some (Or.inl ⟨3, y, bg, hy1, by rw [e3], by decide, by decide, hy2⟩)
  -- the reference: no sign of these
  have hwd : ∀ (r : Int32 × Int32 × Int32 × Int32 × Int32 × Int32 × Int32 × Int32 × Int32), ¬ (k = 3 ∧ v = 43) → ¬ (k = 3 ∧ v = 45) → ¬ (k = 3 ∧ v = 42) → ((k = 1 ∧ o = 7) → ∃ y, r = (1, 4, fk, fp, y) ∧ zNext n f g e y) → ((k = 1 ∧ o = 8) → ∃ y, r = (1, 5, fk, fp, y) ∧ zNext n f g e y) → (¬ (k = 1 ∧ o = 7) → ¬ (k = 1 ∧ o = 8) → r.1 = 0 ∧ r.2.2.1 = 1 ∧ r.2.2.2.1 = s) → zw (fn_X12_readsOp n a bg 0 wa g tab) (fun q => (∃ x y b', r = (1, x, fk, fp, y) ∧ q = (x, e, b', 0, wa) ∧ 1 ≤ x ∧ x ≤ 5 ∧ zNext n f g e y) ∨ zStop r.1 r.2.2.1 r.2.2.2.1 q.2.2.2.1 q.2.2.2.2) := by
    intro r n43 n45 n42 h7 h8 h0
    unfold fn_X12_readsOp
    rw [zGw_0, zb_some, if_neg (by decide)]
    refine zw_zb0 (zHere hn ha) (fun t hr => ?_)
    obtain ⟨b, s'⟩ := t
    dsimp only at hr ⊢
    obtain ⟨h1, h2⟩ := hr
    obtain rfl : s = s' := zSk_un T.1 h1
    unfold zj
    dsimp only
    rw [if_neg (fun q => n43 (c43.mpr (h2.symm.trans q))), if_neg (fun q => n45 (c45.mpr (h2.symm.trans q))), if_neg (fun q => n42 (c42.mpr (h2.symm.trans q)))]
    refine zw_zb0 (zWordM hn hsr Ts) (fun t hw => ?_)
    rcases hw with ⟨hw1, rfl⟩ | ⟨hw1, rfl⟩
    · dsimp only
      simp only [zGw_0, zb_some]
      rw [if_neg (by decide)]
      obtain ⟨hrun, hk⟩ := zTok_w Ts hw1
      refine zw_zb0 (zOwnM (by (first | ((try clear ht); (try clear ho); (try clear hT); (try clear T); (try clear hb); (try clear hsg); (try clear hwd); grind) | grind)) (by (first | ((try clear ht); (try clear ho); (try clear hT); (try clear T); (try clear hb); (try clear hsg); (try clear hwd); grind) | grind)) hb.2.2.1 hT (fun i hi => zRun_l hb.1 hb.2.2.1 hb.2.2.2 hn hrun.2.1 i hi)) (fun p hp => ?_)
      obtain ⟨p1, p2, p3, p4⟩ := hp
      have hpo : k = 1 ∧ p = o ∨ ¬ k = 1 ∧ p = (-1) := by
        rcases hk with ⟨k1, k2, k3, k4⟩ | ⟨k1, k2⟩
        · exact Or.inl ⟨k1, zOwS_un (p4 v k2 k3) k4⟩
        · exact Or.inr ⟨by rw [k1]; decide, p3 k2⟩
      rw [if_neg (by decide)]
      refine zw_if (fun d => ?_) (fun d => ?_)
      · rw [if_pos d]
        rcases hpo with ⟨k1, po⟩ | ⟨_, po⟩
        · obtain ⟨y, y1, y2⟩ := h7 ⟨k1, by rw [← po]; exact d⟩
          exact zw_some (Or.inl ⟨4, y, s, y1, rfl, by decide, by decide, y2⟩)
        · exact absurd (po.symm.trans d) (by decide)
      refine zw_if (fun d2 => ?_) (fun d2 => ?_)
      · rw [if_neg d]
        rcases hpo with ⟨k1, po⟩ | ⟨_, po⟩
        · obtain ⟨y, y1, y2⟩ := h8 ⟨k1, by rw [← po]; exact d2⟩
          exact zw_some (Or.inl ⟨5, y, s, y1, rfl, by decide, by decide, y2⟩)
        · exact absurd (po.symm.trans d2) (by decide)
      · rw [zFl_0, zb_some, if_neg d]
        have hh : ¬ (k = 1 ∧ o = 7) ∧ ¬ (k = 1 ∧ o = 8) := by
          rcases hpo with ⟨k1, po⟩ | ⟨k1, po⟩
          · exact ⟨fun q => d (po.trans q.2), fun q => d2 (po.trans q.2)⟩
          · exact ⟨fun q => k1 q.1, fun q => k1 q.1⟩
        obtain ⟨y1, y2, y3⟩ := h0 hh.1 hh.2
        exact zw_some (Or.inr ⟨y1, show ¬ (1 : Int32) = 0 by decide, y2, y3⟩)
    · dsimp only
      have hh : ¬ k = 1 := fun q => hw1 (zTok_k1 Ts q)
      obtain ⟨y1, y2, y3⟩ := h0 (fun q => hh q.1) (fun q => hh q.1)
      simp only [zGw_n (show ¬ (1 : Int32) = 0 by decide), zb_some, if_true]
      rw [if_neg (by decide)]
      exact zw_some (Or.inr ⟨y1, show ¬ (1 : Int32) = 0 by decide, y2, y3⟩)
  unfold fn_X5_readOp
  simp only [fn_X5_stopAt, zb_some, zIsSign, zIsOwn]
  refine zw_if (fun c1 => ?_) (fun c1 => ?_)
  · have c1 := zIf0 c1
    refine zw_if (fun c2 => ?_) (fun c2 => ?_)
    · have c2 := zIf0 c2
      refine zw_if (fun c3 => ?_) (fun c3 => ?_)
      · have c3 := zIf0 c3
        refine zw_if (fun c4 => ?_) (fun c4 => ?_)
        · have c4 := zIf0 c4
          refine zw_if (fun c5 => ?_) (fun c5 => ?_)
          · have c5 := zIf0 c5
            exact zw_some (hwd _ c1 c2 c3 (fun q => absurd q c4) (fun q => absurd q c5) (fun _ _ => ⟨rfl, rfl, rfl⟩))
          · have c5 := zIf1 c5
            refine zw_zb0 (zAdvN hn ha ht ho T (Or.inl c5.1)) (fun z hz => ?_)
            exact zw_some (hwd _ c1 c2 c3 (fun q => absurd q c4) (fun _ => ⟨z, rfl, (zTok_nx hn ha T (Or.inl c5.1)).1, hz⟩) (fun _ q => absurd c5 q))
        · have c4 := zIf1 c4
          refine zw_zb0 (zAdvN hn ha ht ho T (Or.inl c4.1)) (fun z hz => ?_)
          exact zw_some (hwd _ c1 c2 c3 (fun _ => ⟨z, rfl, (zTok_nx hn ha T (Or.inl c4.1)).1, hz⟩) (fun q => absurd (c4.2.symm.trans q.2) (by decide)) (fun q => absurd c4 q))
      · have c3 := zIf1 c3
        refine zw_zb0 (zAdvN hn ha ht ho T (Or.inr (Or.inr c3.1))) (fun z hz => ?_)
        exact zw_some (hsg _ 42 3 (Or.inr (Or.inr ⟨rfl, rfl⟩)) c3 ⟨z, rfl, (zTok_nx hn ha T (Or.inr (Or.inr c3.1))).1, hz⟩)
    · have c2 := zIf1 c2
      refine zw_zb0 (zAdvN hn ha ht ho T (Or.inr (Or.inr c2.1))) (fun z hz => ?_)
      exact zw_some (hsg _ 45 2 (Or.inr (Or.inl ⟨rfl, rfl⟩)) c2 ⟨z, rfl, (zTok_nx hn ha T (Or.inr (Or.inr c2.1))).1, hz⟩)
  · have c1 := zIf1 c1
    refine zw_zb0 (zAdvN hn ha ht ho T (Or.inr (Or.inr c1.1))) (fun z hz => ?_)
    exact zw_some (hsg _ 43 1 (Or.inl ⟨rfl, rfl⟩) c1 ⟨z, rfl, (zTok_nx hn ha T (Or.inr (Or.inr c1.1))).1, hz⟩)
/-! class and reference, a step each -/
theorem zMustR {n a e k s v o w fk fp bg wa : Int32} {f g own tab : Nat → Int32} (hn : n ≤ 1200) (ha : 0 ≤ a ∧ a ≤ n) (ht : zTp f g) (ho : ∀ w : Nat, w < 13 → own w = zOwT w) (hT : (∀ k : Nat, k < 71 → tab k = zTab k)) (T : zTok n f g a e k s v o) (hw : 0 ≤ w) :
    zw (fn_X5_readOwn w fk fp n e k s v o f own) (fun r => zw (fn_X12_must w n a bg 0 wa g tab) (fun q => (∃ y, r = (1, fk, fp, y) ∧ q = (e, s, 0, wa) ∧ zNext n f g e y) ∨ zStop r.1 r.2.1 r.2.2.1 q.2.2.1 q.2.2.2)) := by
  refine zw_mono (zROwn hn ha ht ho T) (fun r hr => ?_)
  refine zw_mono (zMustM hn ha T hT hw) (fun q hq => ?_)
  rcases hr with ⟨c, y, r1, r2⟩ | ⟨c, r1⟩
  · rcases hq with ⟨_, q1⟩ | ⟨d, _⟩
    · exact Or.inl ⟨y, r1, q1, r2⟩
    · exact absurd c d
  · rcases hq with ⟨d, _⟩ | ⟨_, q1, q2⟩
    · exact absurd d c
    · subst r1
      exact Or.inr ⟨rfl, by rw [q1]; decide, q1.symm, q2.symm⟩
theorem zSignR {n a e k s v o c fk fp wa : Int32} {f g own : Nat → Int32} (hn : n ≤ 1200) (ha : 0 ≤ a ∧ a ≤ n) (ht : zTp f g) (ho : ∀ w : Nat, w < 13 → own w = zOwT w) (T : zTok n f g a e k s v o) (hc : zKd c = 3 ∧ 0 ≤ c ∧ c ≤ 127) :
    zw (fn_X5_readSign c fk fp n e k s v o f own) (fun r => zw (fn_X12_mark c n a 0 wa g) (fun q => (∃ y, r = (1, fk, fp, y) ∧ q = (e, 0, wa) ∧ zNext n f g e y) ∨ zStop r.1 r.2.1 r.2.2.1 q.2.1 q.2.2)) := by
  refine zw_mono (zRSign hn ha ht ho T) (fun r hr => ?_)
  refine zw_mono (zMarkM hn ht ha T hc) (fun q hq => ?_)
  rcases hr with ⟨c, y, r1, r2⟩ | ⟨c, r1⟩
  · rcases hq with ⟨_, q1⟩ | ⟨d, _⟩
    · exact Or.inl ⟨y, r1, q1, r2⟩
    · exact absurd c d
  · rcases hq with ⟨d, _⟩ | ⟨_, q1, q2⟩
    · exact absurd d c
    · subst r1
      exact Or.inr ⟨rfl, by rw [q1]; decide, q1.symm, q2.symm⟩
theorem zNumR {n a e k s v o lo hi got fk fp bg wa : Int32} {f g own : Nat → Int32} {lo64 hi64 : Int64} (hlo : lo64 = lo.toInt64) (hhi : hi64 = hi.toInt64) (hn : n ≤ 1200) (ha : 0 ≤ a ∧ a ≤ n) (ht : zTp f g) (ho : ∀ w : Nat, w < 13 → own w = zOwT w) (T : zTok n f g a e k s v o) :
    zw (fn_X5_readValue 0 lo hi got fk fp n e k s v o f own) (fun r => zw (fn_X12_number lo64 hi64 n a bg 0 wa g) (fun q => (∃ y, r = (1, v, fk, fp, y) ∧ q = (v.toInt64, e, s, 0, wa) ∧ lo ≤ v ∧ v ≤ hi ∧ zNext n f g e y) ∨ zStop r.1 r.2.2.1 r.2.2.2.1 q.2.2.2.1 q.2.2.2.2)) := by
  subst hlo
  subst hhi
  refine zw_mono (zRVal0 hn ha ht ho T) (fun r hr => ?_)
  refine zw_mono (zNumM _ _ hn ha T) (fun q hq => ?_)
  rw [z64_le, z64_le] at hq
  rcases hr with ⟨k2, c, y, r1, r2⟩ | ⟨k2, c, r1⟩ | ⟨k2, r1⟩
  · rcases hq with ⟨_, _, _, _, q1⟩ | ⟨_, d, _⟩ | ⟨d, _⟩
    · exact Or.inl ⟨y, r1, q1, c.1, c.2, r2⟩
    · exact absurd c d
    · exact absurd k2 d
  · rcases hq with ⟨_, d, _⟩ | ⟨_, _, q1, q2⟩ | ⟨d, _⟩
    · exact absurd d c
    · subst r1
      exact Or.inr ⟨rfl, by rw [q1]; decide, q1.symm, q2.symm⟩
    · exact absurd k2 d
  · rcases hq with ⟨d, _⟩ | ⟨d, _⟩ | ⟨_, q1, q2⟩
    · exact absurd d k2
    · exact absurd d k2
    · subst r1
      exact Or.inr ⟨rfl, by rw [q1]; decide, q1.symm, q2.symm⟩
/-- digits, and how far they may go, in the reference's own order -/
theorem zDigR {n a e k s v o lo hi got fk fp bg wa : Int32} {f g own : Nat → Int32} (hn : n ≤ 1200) (ha : 0 ≤ a ∧ a ≤ n) (ht : zTp f g) (ho : ∀ w : Nat, w < 13 → own w = zOwT w) (T : zTok n f g a e k s v o) :
    zw (fn_X5_readValue 0 lo hi got fk fp n e k s v o f own) (fun r => zw (fn_X12_digits n a bg 0 wa g) (fun q => k = 2 ∧ q = (v.toInt64, e, s, 0, wa) ∧ ((∃ y, r = (1, v, fk, fp, y) ∧ lo ≤ v ∧ v ≤ hi ∧ zNext n f g e y) ∨ ¬ (lo ≤ v ∧ v ≤ hi) ∧ r.1 = 0 ∧ r.2.2.1 = 2 ∧ r.2.2.2.1 = s) ∨ ¬ k = 2 ∧ zStop r.1 r.2.2.1 r.2.2.2.1 q.2.2.2.1 q.2.2.2.2)) := by
  refine zw_mono (zRVal0 hn ha ht ho T) (fun r hr => ?_)
  refine zw_mono (zDigM hn ha T) (fun q hq => ?_)
  rcases hr with ⟨k2, c, y, r1, r2⟩ | ⟨k2, c, r1⟩ | ⟨k2, r1⟩
  · rcases hq with ⟨_, _, _, q1⟩ | ⟨d, _⟩
    · exact Or.inl ⟨k2, q1, Or.inl ⟨y, r1, c.1, c.2, r2⟩⟩
    · exact absurd k2 d
  · rcases hq with ⟨_, _, _, q1⟩ | ⟨d, _⟩
    · subst r1
      exact Or.inl ⟨k2, q1, Or.inr ⟨c, rfl, rfl, rfl⟩⟩
    · exact absurd k2 d
  · rcases hq with ⟨d, _⟩ | ⟨_, q0, q1, q2⟩
    · exact absurd d k2
    · subst r1
      exact Or.inr ⟨k2, rfl, by rw [q1]; decide, q1.symm, q2.symm⟩
set_option maxHeartbeats 2000000 in
theorem zFormat {n a e k s v o got fk fp bg wa cF cN : Int32} {f g own tab nF nN stp mst prc : Nat → Int32} {mF mNF mN mNN mS mM mC : Nat → Int32} (hn : n ≤ 1200) (ha : 0 ≤ a ∧ a ≤ n) (ht : zTp f g) (ho : ∀ w : Nat, w < 13 → own w = zOwT w) (hT : (∀ k : Nat, k < 71 → tab k = zTab k)) (T : zTok n f g a e k s v o) (hF : mF 1 = cF ∧ 0 ≤ cF ∧ cF < 4) (hN : mN 1 = cN ∧ 0 ≤ cN ∧ cN ≤ 14) (hnf : zNR 4 cF nF mNF) (hnn : zNR 14 cN nN mNN) :
    zw (fn_X5_readFormat got fk fp n e k s v o cF nF cN nN f own stp mst prc) (fun r => zw (fn_X12_readsFormat n a bg 0 wa 1 g tab mF mNF mN mNN mS mM mC) (fun q =>
      (∃ g' e' k' s' v' o' z b' c m x1 x2 x3, r = (1, g', fk, fp, e', k', s', v', o', cF + 1, upd nF cF.toNatClampNeg c, upd stp cF.toNatClampNeg x1, upd mst cF.toNatClampNeg x2, upd prc cF.toNatClampNeg x3) ∧ q = (z, b', 0, wa, upd mF 1 (cF + 1), upd mNF (4 + cF).toNatClampNeg m, upd mS (4 + cF).toNatClampNeg x1, upd mM (4 + cF).toNatClampNeg x2, upd mC (4 + cF).toNatClampNeg x3) ∧ zNm c m ∧ (1 ≤ x1 ∧ x1 ≤ 1000000) ∧ (1 ≤ x2 ∧ x2 ≤ 1000000000) ∧ (0 ≤ x3 ∧ x3 ≤ 999) ∧ zNext n f g z (e', k', s', v', o'))
      ∨ zStop r.1 r.2.2.1 r.2.2.2.1 q.2.2.1 q.2.2.2.1 ∧ q.2.2.2.2 = (mF, mNF, mS, mM, mC))) := by
  unfold fn_X5_readFormat fn_X12_readsFormat
  obtain ⟨r1, hr1, q1, hq1, h1⟩ := zNewName (got := got) (fk := fk) (fp := fp) (bg := bg) (wa := wa) hn ha ht ho hT T ⟨hF.1, hF.2.1, by (first | ((try clear ht); (try clear ho); (try clear hT); (try clear T); (try clear hnf); (try clear hnn); grind) | grind)⟩ hN hnf hnn
  rw [hr1, hq1]
  simp only [zb_some]
  rcases h1 with ⟨y1, rfl, hnm, q1e, ha1, T1⟩ | hst
  · obtain ⟨m, q1⟩ := q1
    dsimp only at hnm q1e ⊢
    subst q1e
    dsimp only
    rw [if_neg (by decide)]
    obtain ⟨r2, hr2, q2, hq2, h2⟩ := zMustR (w := 1) (fk := fk) (fp := fp) (bg := s) (wa := wa) hn ha1 ht ho hT T1 (by decide)
    rw [hr2, hq2]
    simp only [zb_some]
    rcases h2 with ⟨y2, rfl, rfl, ha2, T2⟩ | hst
    · dsimp only
      rw [if_neg (by decide)]
      obtain ⟨r3, hr3, q3, hq3, h3⟩ := zNumR (lo := 1) (hi := 1000000) (lo64 := 1) (hi64 := 1000000) (got := v) (fk := fk) (fp := fp) (bg := y1.2.2.1) (wa := wa) (by decide +kernel) (by decide +kernel) hn ha2 ht ho T2
      rw [hr3, hq3]
      simp only [zb_some]
      rcases h3 with ⟨y3, rfl, rfl, l3, u3, ha3, T3⟩ | hst
      · dsimp only
        rw [if_neg (by decide)]
        obtain ⟨r4, hr4, q4, hq4, h4⟩ := zMustR (w := 2) (fk := fk) (fp := fp) (bg := y2.2.2.1) (wa := wa) hn ha3 ht ho hT T3 (by decide)
        rw [hr4, hq4]
        simp only [zb_some]
        rcases h4 with ⟨y4, rfl, rfl, ha4, T4⟩ | hst
        · dsimp only
          rw [if_neg (by decide)]
          obtain ⟨r5, hr5, q5, hq5, h5⟩ := zDigR (lo := 1) (hi := 1000000000) (got := y2.2.2.2.1) (fk := fk) (fp := fp) (bg := y3.2.2.1) (wa := wa) hn ha4 ht ho T4
          rw [hr5, hq5]
          simp only [zb_some]
          rcases h5 with ⟨_, rfl, ⟨y5, rfl, l5, u5, ha5, T5⟩ | ⟨h5, d1, d2, d3⟩⟩ | ⟨_, hst⟩
          · dsimp only
            have hin : (1 : Int64) ≤ y4.2.2.2.1.toInt64 ∧ y4.2.2.2.1.toInt64 ≤ 1000000000 := by
              rw [show (1 : Int64) = (1 : Int32).toInt64 by decide +kernel, show (1000000000 : Int64) = (1000000000 : Int32).toInt64 by decide +kernel, z64_le, z64_le]
              exact ⟨l5, u5⟩
            simp only [zGw_0, zb_some, zIsIn, if_pos hin, zj]
            rw [if_neg (by decide), if_neg (by decide), if_neg (by decide)]
            obtain ⟨r6, hr6, q6, hq6, h6⟩ := zMustR (w := 3) (fk := fk) (fp := fp) (bg := y4.2.2.1) (wa := wa) hn ha5 ht ho hT T5 (by decide)
            rw [hr6, hq6]
            simp only [zb_some]
            rcases h6 with ⟨y6, rfl, rfl, ha6, T6⟩ | hst
            · dsimp only
              rw [if_neg (by decide)]
              obtain ⟨r7, hr7, q7, hq7, h7⟩ := zNumR (lo := 0) (hi := 999) (lo64 := 0) (hi64 := 999) (got := y4.2.2.2.1) (fk := fk) (fp := fp) (bg := y5.2.2.1) (wa := wa) (by decide +kernel) (by decide +kernel) hn ha6 ht ho T6
              rw [hr7, hq7]
              simp only [zb_some]
              rcases h7 with ⟨y7, rfl, rfl, l7, u7, ha7, T7⟩ | hst
              · dsimp only
                rw [if_neg (by decide)]
                have hadd : fn_X9_addFormat v y2.2.2.2.1 y4.2.2.2.1 y6.2.2.2.1 cF nF stp mst prc = some (cF + 1, upd nF cF.toNatClampNeg v, upd stp cF.toNatClampNeg y2.2.2.2.1, upd mst cF.toNatClampNeg y4.2.2.2.1, upd prc cF.toNatClampNeg y6.2.2.2.1) := by
                  unfold fn_X9_addFormat
                  rw [if_neg (by (first | ((try clear ht); (try clear ho); (try clear hT); (try clear T); (try clear hnf); (try clear hnn); (try clear hadd); grind) | grind)), zg_in 4 (by decide +kernel) (by (first | ((try clear ht); (try clear ho); (try clear hT); (try clear T); (try clear hnf); (try clear hnn); (try clear hadd); grind) | grind))]
                simp only [hadd, zb_some, zGw_0, fn_X12_f]
                rw [if_neg (by decide), show (1 : Int32).toNatClampNeg = 1 by decide +kernel, hF.1, show (4 * 1 : Int32) = 4 by decide +kernel, zg_in 2 (by decide +kernel) (by decide), zg_in 8 (by decide +kernel) (by (first | ((try clear ht); (try clear ho); (try clear hT); (try clear T); (try clear hnf); (try clear hnn); (try clear hadd); grind) | grind))]
                simp only [z64_32]
                exact zw_some (zw_some (Or.inl ⟨_, _, _, _, _, _, _, _, _, _, _, _, _, rfl, rfl, hnm, ⟨l3, u3⟩, ⟨l5, u5⟩, ⟨l7, u7⟩, ha7, T7⟩))
              · obtain ⟨s1, s2, s3, s4⟩ := hst
                obtain ⟨x1, x2, x3, x4, x5⟩ := q7
                dsimp only at s2 s3 s4 ⊢
                rw [if_pos s1]
                simp only [zGw_n s2, zb_some, if_true]
                exact zw_some (zw_some (Or.inr ⟨⟨rfl, s2, s3, s4⟩, rfl⟩))
            · obtain ⟨s1, s2, s3, s4⟩ := hst
              obtain ⟨x2, x3, x4, x5⟩ := q6
              dsimp only at s2 s3 s4 ⊢
              rw [if_pos s1]
              simp only [zNum_n s2, zGw_n s2, zb_some, if_true]
              exact zw_some (zw_some (Or.inr ⟨⟨rfl, s2, s3, s4⟩, rfl⟩))
          · obtain ⟨x1, x2, x3, x4, x5⟩ := r5
            dsimp only at d1 d2 d3 ⊢
            have hin : ¬ ((1 : Int64) ≤ y4.2.2.2.1.toInt64 ∧ y4.2.2.2.1.toInt64 ≤ 1000000000) := by
              rw [show (1 : Int64) = (1 : Int32).toInt64 by decide +kernel, show (1000000000 : Int64) = (1000000000 : Int32).toInt64 by decide +kernel, z64_le, z64_le]
              exact h5
            rw [if_pos d1]
            simp only [zGw_0, zb_some, zIsIn, if_neg hin, zj, if_true, zFl_0, zMust_n (show ¬ (2 : Int32) = 0 by decide), zNum_n (show ¬ (2 : Int32) = 0 by decide), zGw_n (show ¬ (2 : Int32) = 0 by decide)]
            rw [if_neg (by decide)]
            exact zw_some (zw_some (Or.inr ⟨⟨rfl, show ¬ (2 : Int32) = 0 by decide, d2, d3⟩, rfl⟩))
          · obtain ⟨s1, s2, s3, s4⟩ := hst
            obtain ⟨x1, x2, x3, x4, x5⟩ := q5
            dsimp only at s2 s3 s4 ⊢
            rw [if_pos s1]
            simp only [zGw_n s2, zb_some, if_true, zj, zMust_n s2, zNum_n s2]
            exact zw_some (zw_some (Or.inr ⟨⟨rfl, s2, s3, s4⟩, rfl⟩))
        · obtain ⟨s1, s2, s3, s4⟩ := hst
          obtain ⟨x2, x3, x4, x5⟩ := q4
          dsimp only at s2 s3 s4 ⊢
          rw [if_pos s1]
          simp only [zDig_n s2, zGw_n s2, zb_some, if_true, zj, zMust_n s2, zNum_n s2]
          exact zw_some (zw_some (Or.inr ⟨⟨rfl, s2, s3, s4⟩, rfl⟩))
      · obtain ⟨s1, s2, s3, s4⟩ := hst
        obtain ⟨x1, x2, x3, x4, x5⟩ := q3
        dsimp only at s2 s3 s4 ⊢
        rw [if_pos s1]
        simp only [zDig_n s2, zGw_n s2, zb_some, if_true, zj, zMust_n s2, zNum_n s2]
        exact zw_some (zw_some (Or.inr ⟨⟨rfl, s2, s3, s4⟩, rfl⟩))
    · obtain ⟨s1, s2, s3, s4⟩ := hst
      obtain ⟨x2, x3, x4, x5⟩ := q2
      dsimp only at s2 s3 s4 ⊢
      rw [if_pos s1]
      simp only [zDig_n s2, zGw_n s2, zb_some, if_true, zj, zMust_n s2, zNum_n s2]
      exact zw_some (zw_some (Or.inr ⟨⟨rfl, s2, s3, s4⟩, rfl⟩))
  · obtain ⟨s1, s2, s3, s4⟩ := hst
    obtain ⟨x1, x2, x3, x4, x5⟩ := q1
    dsimp only at s2 s3 s4 ⊢
    rw [if_pos s1]
    simp only [zDig_n s2, zGw_n s2, zb_some, if_true, zj, zMust_n s2, zNum_n s2]
    exact zw_some (zw_some (Or.inr ⟨⟨rfl, s2, s3, s4⟩, rfl⟩))
/-! an input, a let -/
theorem zNewNum {m w cN : Int32} {mN mNN mO m1 m2 mX mW mG : Nat → Int32} (hN : mN 1 = cN ∧ 0 ≤ cN ∧ cN < 14) : fn_X12_newNumber m w 1 mN mNN mO m1 m2 mX mW mG = some (upd mNN (14 + cN).toNatClampNeg m, upd mO (14 + cN).toNatClampNeg w, upd m1 (14 + cN).toNatClampNeg (-1), upd m2 (14 + cN).toNatClampNeg (-1), upd mX (14 + cN).toNatClampNeg (-1), upd mW (14 + cN).toNatClampNeg (-1), upd mG (14 + cN).toNatClampNeg cN) := by
  unfold fn_X12_newNumber
  simp only [fn_X12_n, zb_some]
  rw [show (1 : Int32).toNatClampNeg = 1 by decide +kernel, hN.1, show (14 * 1 : Int32) = 14 by decide +kernel, zg_in 2 (by decide +kernel) (by decide)]
  have h28 : ∀ e : Option ((Nat → Int32) × (Nat → Int32) × (Nat → Int32) × (Nat → Int32) × (Nat → Int32) × (Nat → Int32) × (Nat → Int32)), zg (14 + cN) 28 e = e := fun e => zg_in 28 (by decide +kernel) (by (first | ((try clear h28); grind) | grind)) e
  simp only [h28]
/-- how many lets a NUMBER is made of, as the class keeps it -/
noncomputable def zLets (cN : Int32) (made lets : Nat → Int32) (side : Int32) : Int32 := if made (2 * cN + side).toNatClampNeg < 0 ∨ cN ≤ made (2 * cN + side).toNatClampNeg then 0 else lets (made (2 * cN + side).toNatClampNeg).toNatClampNeg
theorem zLetsOf {cN side : Int32} {made lets : Nat → Int32} (hc : 0 ≤ cN ∧ cN < 14) (hs : side = 0 ∨ side = 1) : fn_X4_letsOf side cN made lets = some (zLets cN made lets side) := by
  unfold fn_X4_letsOf zLets
  rw [zg_in 28 (by decide +kernel) (by grind)]
  generalize made (2 * cN + side).toNatClampNeg = x
  by_cases c : x < 0
  · simp [c]
  · by_cases d : cN ≤ x
    · simp [c, d]
    · have hz : ∀ e : Option Int32, zg x 14 e = e := fun e => zg_in 14 (by decide +kernel) (by (first | ((try clear hz); grind) | grind)) e
      simp [c, d, hz]
noncomputable def zDeep (w cN : Int32) (made lets : Nat → Int32) : Int32 := if w = 0 then 0 else 1 + (if zLets cN made lets 0 < zLets cN made lets 1 then zLets cN made lets 1 else zLets cN made lets 0)
theorem zAddNum {c w cN inp : Int32} {nN op fx al jn made lets : Nat → Int32} (hc : 0 ≤ cN ∧ cN < 14) : fn_X4_add c w cN inp nN op fx al jn made lets = some (cN + 1, inp + (if w = 0 then 1 else 0), upd nN cN.toNatClampNeg c, upd op cN.toNatClampNeg w, upd fx cN.toNatClampNeg (-1), upd al cN.toNatClampNeg (-1), upd jn cN.toNatClampNeg cN, upd lets cN.toNatClampNeg (zDeep w cN made lets)) := by
  unfold fn_X4_add zDeep
  rw [if_pos hc.2, zg_in 14 (by decide +kernel) hc]
  simp only [zLetsOf hc (Or.inl rfl), zLetsOf hc (Or.inr rfl), zb_some, zj]
  by_cases q : w = 0
  · simp only [if_pos q]
    rw [zg_in 14 (by decide +kernel) hc]
  · simp only [if_neg q]
    rw [zg_in 14 (by decide +kernel) hc]
set_option maxHeartbeats 2000000 in
theorem zBox {n a e k s v o got fk fp bg wa cF cN inp : Int32} {f g own tab nF nN made amt op fx al jn lets : Nat → Int32} {mF mNF mN mNN mO m1 m2 mX mW mG : Nat → Int32} {mA mB : Nat → Int64} (hn : n ≤ 1200) (ha : 0 ≤ a ∧ a ≤ n) (ht : zTp f g) (ho : ∀ w : Nat, w < 13 → own w = zOwT w) (hT : (∀ k : Nat, k < 71 → tab k = zTab k)) (T : zTok n f g a e k s v o) (hF : mF 1 = cF ∧ 0 ≤ cF ∧ cF ≤ 4) (hN : mN 1 = cN ∧ 0 ≤ cN ∧ cN < 14) (hnf : zNR 4 cF nF mNF) (hnn : zNR 14 cN nN mNN) :
    zw (fn_X5_readBox got fk fp n e k s v o cF nF cN inp nN f own made amt op fx al jn lets) (fun r => zw (fn_X12_readsInput n a bg 0 wa 1 g tab mF mNF mN mNN mO m1 m2 mX mW mG mA mB) (fun q =>
      (∃ g' e' k' s' v' o' z b' c m x y, r = (1, g', fk, fp, e', k', s', v', o', cN + 1, inp + 1, upd nN cN.toNatClampNeg c, upd (upd made (2 * cN + 0).toNatClampNeg (-1)) (2 * cN + 1).toNatClampNeg (-1), upd (upd amt (2 * cN + 0).toNatClampNeg x) (2 * cN + 1).toNatClampNeg y, upd op cN.toNatClampNeg 0, upd fx cN.toNatClampNeg (-1), upd al cN.toNatClampNeg (-1), upd jn cN.toNatClampNeg cN, upd lets cN.toNatClampNeg 0) ∧ q = (z, b', 0, wa, upd mN 1 (cN + 1), upd mNN (14 + cN).toNatClampNeg m, upd mO (14 + cN).toNatClampNeg 0, upd m1 (14 + cN).toNatClampNeg (-1), upd m2 (14 + cN).toNatClampNeg (-1), upd mX (14 + cN).toNatClampNeg (-1), upd mW (14 + cN).toNatClampNeg (-1), upd mG (14 + cN).toNatClampNeg cN, vp_updL mA (14 + cN).toNatClampNeg x.toInt64, vp_updL mB (14 + cN).toNatClampNeg y.toInt64) ∧ zNm c m ∧ (-10000000) ≤ x ∧ x ≤ y ∧ y ≤ 10000000 ∧ zNext n f g z (e', k', s', v', o'))
      ∨ zStop r.1 r.2.2.1 r.2.2.2.1 q.2.2.1 q.2.2.2.1 ∧ q.2.2.2.2 = (mN, mNN, mO, m1, m2, mX, mW, mG, mA, mB))) := by
  have h28 : ∀ {ρ : Type} (e : Option ρ), zg (14 + cN) 28 e = e := fun e => zg_in 28 (by decide +kernel) (by (first | ((try clear ht); (try clear ho); (try clear hT); (try clear T); (try clear hnf); (try clear hnn); (try clear h28); grind) | grind)) e
  unfold fn_X5_readBox fn_X12_readsInput
  obtain ⟨r1, hr1, q1, hq1, h1⟩ := zNewName (got := got) (fk := fk) (fp := fp) (bg := bg) (wa := wa) hn ha ht ho hT T hF ⟨hN.1, hN.2.1, by (first | ((try clear ht); (try clear ho); (try clear hT); (try clear T); (try clear hnf); (try clear hnn); (try clear h28); grind) | grind)⟩ hnf hnn
  rw [hr1, hq1]
  simp only [zb_some]
  rcases h1 with ⟨y1, rfl, hnm, q1e, ha1, T1⟩ | hst
  · obtain ⟨m, q1⟩ := q1
    dsimp only at hnm q1e ⊢
    subst q1e
    dsimp only
    rw [if_neg (by decide)]
    obtain ⟨r2, hr2, q2, hq2, h2⟩ := zRVal1 (lq := -10000000) (lo := -10000000) (hi := 10000000) (got := v) (fk := fk) (fp := fp) (bg := s) (wa := wa) hn ha1 ht ho T1 (by decide)
    rw [show (-10000000 : Int32).toInt64 = -10000000 by decide +kernel, show (10000000 : Int32).toInt64 = 10000000 by decide +kernel] at hq2
    rw [hr2, hq2]
    simp only [zb_some]
    rcases h2 with ⟨x, y2, z2, rfl, rfl, l2, u2, ha2, T2⟩ | hst | ⟨_, _, _, x, _, _, w1, w2⟩
    · dsimp only
      rw [if_neg (by decide)]
      obtain ⟨r3, hr3, q3, hq3, h3⟩ := zRVal1 (lq := -10000000) (lo := x) (hi := 10000000) (got := x) (fk := fk) (fp := fp) (bg := y1.2.2.1) (wa := wa) hn ha2 ht ho T2 l2
      rw [show (-10000000 : Int32).toInt64 = -10000000 by decide +kernel, show (10000000 : Int32).toInt64 = 10000000 by decide +kernel] at hq3
      rw [hr3, hq3]
      simp only [zb_some]
      rcases h3 with ⟨y, y3, z3, rfl, rfl, l3, u3, ha3, T3⟩ | hst | ⟨d1, d2, d3, y, z3, rfl, w1, w2⟩
      · dsimp only
        rw [if_neg (by decide)]
        have hcmp : 0 ≤ lg_cmp y.toInt64 x.toInt64 := (lg_cmp_ge _ _).mpr ((z64_le _ _).mpr l3)
        simp only [zPrep hN.2 (Or.inl rfl), zPrep hN.2 (Or.inr rfl), zAddNum hN.2, zb_some, zGw_0, zj, if_pos hcmp, zNewNum hN, fn_X12_n, if_true]
        rw [if_neg (by decide), if_neg (by decide), show (1 : Int32).toNatClampNeg = 1 by decide +kernel, hN.1, show (14 * 1 : Int32) = 14 by decide +kernel, zg_in 2 (by decide +kernel) (by decide), h28, h28]
        exact zw_some (zw_some (Or.inl ⟨_, _, _, _, _, _, _, _, _, _, _, _, rfl, rfl, hnm, l2, l3, u3, ha3, T3⟩))
      · obtain ⟨s1, s2, s3, s4⟩ := hst
        obtain ⟨x1, x2, x3, x4, x5⟩ := q3
        dsimp only at s2 s3 s4 ⊢
        rw [if_pos s1]
        simp only [zGw_n s2, zb_some, if_true, zj]
        exact zw_some (zw_some (Or.inr ⟨⟨rfl, s2, s3, s4⟩, rfl⟩))
      · obtain ⟨x1, x2, x3, x4, x5⟩ := r3
        dsimp only at d1 d2 d3 ⊢
        rw [if_pos d1]
        have hcmp : ¬ 0 ≤ lg_cmp y.toInt64 x.toInt64 := fun q => by
          have := (z64_le _ _).mp ((lg_cmp_ge _ _).mp q)
          (first | ((try clear ht); (try clear ho); (try clear hT); (try clear T); (try clear hnf); (try clear hnn); (try clear h28); grind) | grind)
        simp only [zGw_0, zb_some, zj, if_neg hcmp, zFl_0, zGw_n (show ¬ (2 : Int32) = 0 by decide), if_true]
        rw [if_neg (by decide)]
        exact zw_some (zw_some (Or.inr ⟨⟨rfl, show ¬ (2 : Int32) = 0 by decide, d2, d3⟩, rfl⟩))
    · obtain ⟨s1, s2, s3, s4⟩ := hst
      obtain ⟨x1, x2, x3, x4, x5⟩ := q2
      dsimp only at s2 s3 s4 ⊢
      rw [if_pos s1]
      simp only [zSig_n s2, zGw_n s2, zb_some, if_true, zj]
      exact zw_some (zw_some (Or.inr ⟨⟨rfl, s2, s3, s4⟩, rfl⟩))
    · exact absurd w2 (by (first | ((try clear ht); (try clear ho); (try clear hT); (try clear T); (try clear hnf); (try clear hnn); (try clear h28); grind) | grind))
  · obtain ⟨s1, s2, s3, s4⟩ := hst
    obtain ⟨x1, x2, x3, x4, x5⟩ := q1
    dsimp only at s2 s3 s4 ⊢
    rw [if_pos s1]
    simp only [zSig_n s2, zGw_n s2, zb_some, if_true, zj]
    exact zw_some (zw_some (Or.inr ⟨⟨rfl, s2, s3, s4⟩, rfl⟩))
set_option maxHeartbeats 2000000 in
theorem zLetS {n a e k s v o got fk fp bg wa cF cN inp : Int32} {f g own tab nF nN made amt op fx al jn lets : Nat → Int32} {mF mNF mN mNN mO m1 m2 mX mW mG : Nat → Int32} {mA mB : Nat → Int64} (hn : n ≤ 1200) (ha : 0 ≤ a ∧ a ≤ n) (ht : zTp f g) (ho : ∀ w : Nat, w < 13 → own w = zOwT w) (hT : (∀ k : Nat, k < 71 → tab k = zTab k)) (T : zTok n f g a e k s v o) (hF : mF 1 = cF ∧ 0 ≤ cF ∧ cF ≤ 4) (hN : mN 1 = cN ∧ 0 ≤ cN ∧ cN < 14) (hnf : zNR 4 cF nF mNF) (hnn : zNR 14 cN nN mNN) :
    zw (fn_X5_readLet got fk fp n e k s v o cF nF cN inp nN f own made amt op fx al jn lets) (fun r => zw (fn_X12_readsLet n a bg 0 wa 1 g tab mF mNF mN mNN mO m1 m2 mX mW mG mA mB) (fun q =>
      (∃ g' e' k' s' v' o' z b' c m w p1 x1 p2 x2, r = (1, g', fk, fp, e', k', s', v', o', cN + 1, inp, upd nN cN.toNatClampNeg c, upd (upd made (2 * cN + 0).toNatClampNeg p1) (2 * cN + 1).toNatClampNeg p2, upd (upd amt (2 * cN + 0).toNatClampNeg x1) (2 * cN + 1).toNatClampNeg x2, upd op cN.toNatClampNeg w, upd fx cN.toNatClampNeg (-1), upd al cN.toNatClampNeg (-1), upd jn cN.toNatClampNeg cN, upd lets cN.toNatClampNeg (zDeep w cN (upd (upd made (2 * cN + 0).toNatClampNeg p1) (2 * cN + 1).toNatClampNeg p2) lets)) ∧ q.2 = (z, b', 0, wa, upd mN 1 (cN + 1), upd mNN (14 + cN).toNatClampNeg m, upd mO (14 + cN).toNatClampNeg w, upd (upd m1 (14 + cN).toNatClampNeg (-1)) (14 + cN).toNatClampNeg p1, upd (upd m2 (14 + cN).toNatClampNeg (-1)) (14 + cN).toNatClampNeg p2, upd mX (14 + cN).toNatClampNeg (-1), upd mW (14 + cN).toNatClampNeg (-1), upd mG (14 + cN).toNatClampNeg cN, vp_updL mA (14 + cN).toNatClampNeg x1.toInt64, vp_updL mB (14 + cN).toNatClampNeg x2.toInt64) ∧ zNm c m ∧ (1 ≤ w ∧ w ≤ 5) ∧ ((-1) ≤ p1 ∧ p1 < cN) ∧ ((-1) ≤ p2 ∧ p2 < cN) ∧ ((-1000000) ≤ x1 ∧ x1 ≤ 1000000) ∧ ((-1000000) ≤ x2 ∧ x2 ≤ 1000000) ∧ zNext n f g z (e', k', s', v', o'))
      ∨ zStop r.1 r.2.2.1 r.2.2.2.1 q.2.2.2.1 q.2.2.2.2.1 ∧ q.2.2.2.2.2 = (mN, mNN, mO, m1, m2, mX, mW, mG, mA, mB))) := by
  have h28 : ∀ {ρ : Type} (e : Option ρ), zg (14 + cN) 28 e = e := fun e => zg_in 28 (by decide +kernel) (by (first | ((try clear ht); (try clear ho); (try clear hT); (try clear T); (try clear hnf); (try clear hnn); (try clear h28); grind) | grind)) e
  unfold fn_X5_readLet fn_X12_readsLet
  obtain ⟨r1, hr1, q1, hq1, h1⟩ := zNewName (got := got) (fk := fk) (fp := fp) (bg := bg) (wa := wa) hn ha ht ho hT T hF ⟨hN.1, hN.2.1, by (first | ((try clear ht); (try clear ho); (try clear hT); (try clear T); (try clear hnf); (try clear hnn); (try clear h28); grind) | grind)⟩ hnf hnn
  rw [hr1, hq1]
  simp only [zb_some]
  rcases h1 with ⟨y1, rfl, hnm, q1e, ha1, T1⟩ | hst
  · obtain ⟨m, q1⟩ := q1
    dsimp only at hnm q1e ⊢
    subst q1e
    dsimp only
    rw [if_neg (by decide)]
    obtain ⟨r2, hr2, q2, hq2, h2⟩ := zSignR (c := 61) (fk := fk) (fp := fp) (wa := wa) hn ha1 ht ho T1 (by decide +kernel)
    rw [hr2, hq2]
    simp only [zb_some]
    rcases h2 with ⟨y2, rfl, rfl, ha2, T2⟩ | hst
    · dsimp only
      rw [if_neg (by decide)]
      obtain ⟨r3, hr3, q3, hq3, h3⟩ := zWhat (side := 0) (f6 := made) (f7 := amt) (got := v) (fk := fk) (fp := fp) (bg := s) (wa := wa) hn ha2 ht ho hT T2 hN hnn (Or.inl rfl)
      rw [hr3, hq3]
      simp only [zb_some]
      rcases h3 with ⟨p1, x1, g3, e3, k3, s3, v3, o3, z3, b3, rfl, rfl, l3, u3, lx3, ux3, ha3, T3⟩ | hst
      · dsimp only at T3 ⊢
        rw [if_neg (by decide)]
        obtain ⟨r4, hr4, q4, hq4, h4⟩ := zOp (got := g3) (fk := fk) (fp := fp) (bg := b3) (wa := wa) hn ha3 ht ho hT T3
        rw [hr4, hq4]
        simp only [zb_some]
        rcases h4 with ⟨w, y4, b4, rfl, rfl, lw, uw, ha4, T4⟩ | hst
        · dsimp only
          rw [if_neg (by decide)]
          obtain ⟨r5, hr5, q5, hq5, h5⟩ := zWhat (side := 1) (f6 := upd made (2 * cN + 0).toNatClampNeg p1) (f7 := upd amt (2 * cN + 0).toNatClampNeg x1) (got := w) (fk := fk) (fp := fp) (bg := b4) (wa := wa) hn ha4 ht ho hT T4 hN hnn (Or.inr rfl)
          rw [hr5, hq5]
          simp only [zb_some]
          rcases h5 with ⟨p2, x2, g5, e5, k5, s5, v5, o5, z5, b5, rfl, rfl, l5, u5, lx5, ux5, ha5, T5⟩ | hst
          · dsimp only at T5 ⊢
            rw [if_neg (by decide)]
            simp only [zAddNum hN.2, zb_some, zGw_0, zNewNum hN, fn_X12_n]
            rw [if_neg (show ¬ w = 0 by (first | ((try clear ht); (try clear ho); (try clear hT); (try clear T); (try clear hnf); (try clear hnn); (try clear h28); grind) | grind)), if_neg (by decide), show (1 : Int32).toNatClampNeg = 1 by decide +kernel, hN.1, show (14 * 1 : Int32) = 14 by decide +kernel, zg_in 2 (by decide +kernel) (by decide), h28, show inp + 0 = inp by (first | ((try clear ht); (try clear ho); (try clear hT); (try clear T); (try clear hnf); (try clear hnn); (try clear h28); grind) | grind)]
            exact zw_some (zw_some (Or.inl ⟨_, _, _, _, _, _, _, _, _, _, _, _, _, _, _, rfl, rfl, hnm, ⟨lw, uw⟩, ⟨l3, u3⟩, ⟨l5, u5⟩, ⟨lx3, ux3⟩, ⟨lx5, ux5⟩, ha5, T5⟩))
          · obtain ⟨s1, s2, s3, s4⟩ := hst
            obtain ⟨x1', x2', x3, x4, x5, x6⟩ := q5
            dsimp only at s2 s3 s4 ⊢
            rw [if_pos s1]
            simp only [zGw_n s2, zb_some, if_true]
            exact zw_some (zw_some (Or.inr ⟨⟨rfl, s2, s3, s4⟩, rfl⟩))
        · obtain ⟨s1, s2, s3, s4⟩ := hst
          obtain ⟨x1', x2', x3, x4, x5⟩ := q4
          dsimp only at s2 s3 s4 ⊢
          rw [if_pos s1]
          simp only [zWhat_n s2, zGw_n s2, zb_some, if_true]
          exact zw_some (zw_some (Or.inr ⟨⟨rfl, s2, s3, s4⟩, rfl⟩))
      · obtain ⟨s1, s2, s3, s4⟩ := hst
        obtain ⟨x1', x2', x3, x4, x5, x6⟩ := q3
        dsimp only at s2 s3 s4 ⊢
        rw [if_pos s1]
        simp only [zOp_n s2, zWhat_n s2, zGw_n s2, zb_some, if_true]
        exact zw_some (zw_some (Or.inr ⟨⟨rfl, s2, s3, s4⟩, rfl⟩))
    · obtain ⟨s1, s2, s3, s4⟩ := hst
      obtain ⟨x3, x4, x5⟩ := q2
      dsimp only at s2 s3 s4 ⊢
      rw [if_pos s1]
      simp only [zOp_n s2, zWhat_n s2, zGw_n s2, zb_some, if_true]
      exact zw_some (zw_some (Or.inr ⟨⟨rfl, s2, s3, s4⟩, rfl⟩))
  · obtain ⟨s1, s2, s3, s4⟩ := hst
    obtain ⟨x1, x2, x3, x4, x5⟩ := q1
    dsimp only at s2 s3 s4 ⊢
    rw [if_pos s1]
    simp only [zMark_n s2, zOp_n s2, zWhat_n s2, zGw_n s2, zb_some, if_true]
    exact zw_some (zw_some (Or.inr ⟨⟨rfl, s2, s3, s4⟩, rfl⟩))
theorem zg28 {ρ : Type} {p cN : Int32} (h0 : 0 ≤ p) (h1 : p < cN) (h2 : cN ≤ 14) (e : Option ρ) : zg (14 + p) 28 e = e := zg_in 28 (by decide +kernel) ⟨by lia, by lia⟩ e
/-! fixed, group, answer, cast -/
theorem zFix {i x cN : Int32} {fx : Nat → Int32} (hi : 0 ≤ i ∧ i < cN) (hc : cN ≤ 14) : fn_X4_fix i x cN fx = some (upd fx i.toNatClampNeg x) := by
  unfold fn_X4_fix
  rw [if_neg (by grind), if_neg (by grind), zg_in 14 (by decide +kernel) (by grind)]
theorem zAllow {i x cN : Int32} {fx : Nat → Int32} (hi : 0 ≤ i ∧ i < cN) (hc : cN ≤ 14) : fn_X4_allow i x cN fx = some (upd fx i.toNatClampNeg x) := by
  unfold fn_X4_allow
  rw [if_neg (by grind), if_neg (by grind), zg_in 14 (by decide +kernel) (by grind)]
set_option maxHeartbeats 2000000 in
theorem zFixed {n a e k s v o got fk fp bg wa cF cN : Int32} {f g own tab nF nN fx : Nat → Int32} {mF mNF mN mNN mX : Nat → Int32} (hn : n ≤ 1200) (ha : 0 ≤ a ∧ a ≤ n) (ht : zTp f g) (ho : ∀ w : Nat, w < 13 → own w = zOwT w) (hT : (∀ k : Nat, k < 71 → tab k = zTab k)) (T : zTok n f g a e k s v o) (hF : mF 1 = cF ∧ 0 ≤ cF ∧ cF ≤ 4) (hN : mN 1 = cN ∧ 0 ≤ cN ∧ cN ≤ 14) (hnf : zNR 4 cF nF mNF) (hnn : zNR 14 cN nN mNN) :
    zw (fn_X5_readFixed got fk fp cF n e k s v o cN nN f own nF fx) (fun r => zw (fn_X12_readsFixed n a bg 0 wa 1 g tab mN mNN mF mNF mX) (fun q =>
      (∃ g' e' k' s' v' o' z b' i x, r = (1, g', fk, fp, e', k', s', v', o', upd fx i.toNatClampNeg x) ∧ q = (z, b', 0, wa, upd mX (14 + i).toNatClampNeg x) ∧ (0 ≤ i ∧ i < cN) ∧ (0 ≤ x ∧ x < cF) ∧ zNext n f g z (e', k', s', v', o'))
      ∨ zStop r.1 r.2.2.1 r.2.2.2.1 q.2.2.1 q.2.2.2.1 ∧ q.2.2.2.2 = mX)) := by
  unfold fn_X5_readFixed fn_X12_readsFixed
  obtain ⟨p, hp, r1, hr1, q1, hq1, h1⟩ := zTold (got := got) (fk := fk) (fp := fp) (bg := bg) (wa := wa) hn ha ht ho hT T hN hnn
  simp only [hp, zb_some, hr1, hq1]
  rcases h1 with ⟨_, y1, rfl, p1, p2, rfl, ha1, T1⟩ | hst
  · dsimp only
    rw [if_neg (by decide)]
    obtain ⟨p', hp', hpf⟩ := zFindF (p := y1.2.2.2.1) (f1 := nF) hF.2
    obtain ⟨r2, hr2, h2⟩ := zRKnown (p := p') (got := p) (fk := fk) (fp := fp) hn ha1 ht ho T1
    obtain ⟨q2, hq2, h3⟩ := zNameM (bg := s) (wa := wa) hn ha1 T1 hT
    simp only [hp', zb_some, hr2, hq2]
    obtain ⟨m, q2⟩ := q2
    rcases h3 with ⟨c, hnm, q2e⟩ | ⟨c, _, q3, q4⟩
    · dsimp only at hnm q2e ⊢
      subst q2e
      dsimp only
      obtain ⟨x, hx, hxf⟩ := zFindFM (p := m) (f1 := mF) (f2 := mNF) (by rw [hF.1]; exact hF.2)
      rw [hF.1] at hxf
      have ex : p' = x := zFst_un hpf hxf (fun i i1 i2 => zNm_eq (hnf i i1 i2) hnm)
      subst ex
      simp only [zGw_0, zb_some, hx, zj, if_neg (show ¬ (1 : Int32) = 0 by decide)]
      rcases h2 with ⟨_, d, y2, rfl, ha2, T2⟩ | ⟨_, d, rfl⟩ | ⟨d, _⟩
      · dsimp only
        have hx0 : 0 ≤ p' ∧ p' < cF := by
          rcases hpf with ⟨w1, _⟩ | ⟨w1, w2, _⟩
          · exact absurd w1 d
          · exact ⟨w1, w2⟩
        rw [if_neg (by decide), if_neg d, zFix ⟨p1, p2⟩ hN.2.2]
        simp only [zb_some, zGw_0, fn_X12_n]
        rw [show (14 * 1 : Int32) = 14 by decide +kernel, zg28 p1 p2 hN.2.2]
        exact zw_some (zw_some (Or.inl ⟨_, _, _, _, _, _, _, _, p, p', rfl, rfl, ⟨p1, p2⟩, hx0, ha2, T2⟩))
      · dsimp only
        rw [if_pos rfl, if_pos d]
        simp only [zFl_0, zb_some, zGw_n (show ¬ (3 : Int32) = 0 by decide), if_true]
        exact zw_some (zw_some (Or.inr ⟨⟨rfl, show ¬ (3 : Int32) = 0 by decide, rfl, rfl⟩, rfl⟩))
      · exact absurd c d
    · obtain ⟨x2, x3, x4, x5⟩ := q2
      dsimp only at q3 q4 ⊢
      subst q3
      rcases h2 with ⟨d, _⟩ | ⟨d, _⟩ | ⟨_, rfl⟩
      · exact absurd d c
      · exact absurd d c
      · dsimp only
        rw [if_pos rfl]
        simp only [zb_some, zGw_n (show ¬ (1 : Int32) = 0 by decide), if_true, zj]
        exact zw_some (zw_some (Or.inr ⟨⟨rfl, show ¬ (1 : Int32) = 0 by decide, rfl, q4.symm⟩, rfl⟩))
  · obtain ⟨s1, s2, s3, s4⟩ := hst
    obtain ⟨x1, x2, x3, x4, x5⟩ := q1
    dsimp only at s2 s3 s4 ⊢
    rw [if_pos s1]
    simp only [zName_n s2, zGw_n s2, zb_some, if_true, zj]
    exact zw_some (zw_some (Or.inr ⟨⟨rfl, s2, s3, s4⟩, rfl⟩))
set_option maxHeartbeats 2000000 in
theorem zAnswer {n a e k s v o got fk fp bg wa cN : Int32} {f g own tab nN al : Nat → Int32} {mN mNN mW : Nat → Int32} (hn : n ≤ 1200) (ha : 0 ≤ a ∧ a ≤ n) (ht : zTp f g) (ho : ∀ w : Nat, w < 13 → own w = zOwT w) (hT : (∀ k : Nat, k < 71 → tab k = zTab k)) (T : zTok n f g a e k s v o) (hN : mN 1 = cN ∧ 0 ≤ cN ∧ cN ≤ 14) (hnn : zNR 14 cN nN mNN) :
    zw (fn_X5_readAnswer got fk fp n e k s v o cN nN f own al) (fun r => zw (fn_X12_readsAnswer n a bg 0 wa 1 g tab mN mNN mW) (fun q =>
      (∃ g' e' k' s' v' o' z b' i x, r = (1, g', fk, fp, e', k', s', v', o', upd al i.toNatClampNeg x) ∧ q = (z, b', 0, wa, upd mW (14 + i).toNatClampNeg x) ∧ (0 ≤ i ∧ i < cN) ∧ (0 ≤ x ∧ x ≤ 1000000) ∧ zNext n f g z (e', k', s', v', o'))
      ∨ zStop r.1 r.2.2.1 r.2.2.2.1 q.2.2.1 q.2.2.2.1 ∧ q.2.2.2.2 = mW)) := by
  unfold fn_X5_readAnswer fn_X12_readsAnswer
  obtain ⟨p, hp, r1, hr1, q1, hq1, h1⟩ := zTold (got := got) (fk := fk) (fp := fp) (bg := bg) (wa := wa) hn ha ht ho hT T hN hnn
  simp only [hp, zb_some, hr1, hq1]
  rcases h1 with ⟨_, y1, rfl, p1, p2, rfl, ha1, T1⟩ | hst
  · dsimp only
    rw [if_neg (by decide)]
    obtain ⟨r2, hr2, q2, hq2, h2⟩ := zMustR (w := 12) (fk := fk) (fp := fp) (bg := s) (wa := wa) hn ha1 ht ho hT T1 (by decide)
    simp only [hr2, hq2, zb_some]
    rcases h2 with ⟨y2, rfl, rfl, ha2, T2⟩ | hst
    · dsimp only
      rw [if_neg (by decide)]
      obtain ⟨r3, hr3, q3, hq3, h3⟩ := zNumR (lo := 0) (hi := 1000000) (lo64 := 0) (hi64 := 1000000) (got := p) (fk := fk) (fp := fp) (bg := y1.2.2.1) (wa := wa) (by decide +kernel) (by decide +kernel) hn ha2 ht ho T2
      simp only [hr3, hq3, zb_some]
      rcases h3 with ⟨y3, rfl, rfl, l3, u3, ha3, T3⟩ | hst
      · dsimp only
        rw [if_neg (by decide), zAllow ⟨p1, p2⟩ hN.2.2]
        simp only [zb_some, zGw_0, fn_X12_n]
        rw [if_neg (by decide), show (14 * 1 : Int32) = 14 by decide +kernel, zg_in 28 (by decide +kernel) (by (first | ((try clear ht); (try clear ho); (try clear hT); (try clear T); (try clear hnn); grind) | grind)), z64_32]
        exact zw_some (zw_some (Or.inl ⟨_, _, _, _, _, _, _, _, p, _, rfl, rfl, ⟨p1, p2⟩, ⟨l3, u3⟩, ha3, T3⟩))
      · obtain ⟨s1, s2, s3, s4⟩ := hst
        obtain ⟨x1, x2, x3, x4, x5⟩ := q3
        dsimp only at s2 s3 s4 ⊢
        rw [if_pos s1]
        simp only [zGw_n s2, zb_some, if_true]
        exact zw_some (zw_some (Or.inr ⟨⟨rfl, s2, s3, s4⟩, rfl⟩))
    · obtain ⟨s1, s2, s3, s4⟩ := hst
      obtain ⟨x2, x3, x4, x5⟩ := q2
      dsimp only at s2 s3 s4 ⊢
      rw [if_pos s1]
      simp only [zNum_n s2, zGw_n s2, zb_some, if_true]
      exact zw_some (zw_some (Or.inr ⟨⟨rfl, s2, s3, s4⟩, rfl⟩))
  · obtain ⟨s1, s2, s3, s4⟩ := hst
    obtain ⟨x1, x2, x3, x4, x5⟩ := q1
    dsimp only at s2 s3 s4 ⊢
    rw [if_pos s1]
    simp only [zMust_n s2, zNum_n s2, zGw_n s2, zb_some, if_true]
    exact zw_some (zw_some (Or.inr ⟨⟨rfl, s2, s3, s4⟩, rfl⟩))
/-- a class joined to another, as the class does it -/
theorem zJoin {i j cN : Int32} {jn : Nat → Int32} (hi : 0 ≤ i ∧ i < cN) (hj : 0 ≤ j ∧ j < cN) (hc : cN ≤ 14) : zw (fn_X4_join i j cN jn) (fun J => ∀ x : Int32, 0 ≤ x → x < cN → J x.toNatClampNeg = if jn x.toNatClampNeg = jn j.toNatClampNeg then jn i.toNatClampNeg else jn x.toNatClampNeg) := by
  unfold fn_X4_join
  rw [if_neg (by grind), if_neg (by grind), if_neg (by grind), if_pos hj.2]
  refine zw_zg32 14 (by decide) (by grind) ?_
  refine zw_zl32 (fun t => 0 ≤ t.1 ∧ t.1 ≤ cN ∧ (∀ x : Int32, 0 ≤ x → x < t.1 → t.2 x.toNatClampNeg = if jn x.toNatClampNeg = jn j.toNatClampNeg then jn i.toNatClampNeg else jn x.toNatClampNeg) ∧ (∀ x : Int32, t.1 ≤ x → x < cN → t.2 x.toNatClampNeg = jn x.toNatClampNeg)) (fun t => cN - t.1) ⟨by show (0 : Int32) ≤ 0; decide, by (try dsimp only); grind, fun x h1 h2 => by dsimp only at h2; grind, fun x _ _ => rfl⟩ (by (try dsimp only); grind) (fun t back H h => ?_)
  obtain ⟨p, J⟩ := t
  dsimp only at H h ⊢
  obtain ⟨H1, H2, H3, H4⟩ := H
  refine zw_if (fun c => zw_some (fun x h1 h2 => H3 x h1 (by grind))) (fun c => ?_)
  refine zw_zg32 14 (by decide) (by grind) ?_
  have hp := H4 p (by grind) (by grind)
  have hi' : J i.toNatClampNeg = jn i.toNatClampNeg := by
    by_cases q : i < p
    · rw [H3 i hi.1 q]
      split
      · rfl
      · rfl
    · exact H4 i (by grind) hi.2
  refine zw_if (fun d => ?_) (fun d => ?_)
  · refine zw_zg32 14 (by decide) (by grind) ?_
    refine h _ ⟨by (try dsimp only); grind, by (try dsimp only); grind, fun x h1 h2 => ?_, fun x h1 h2 => ?_⟩ (by (try dsimp only); grind) (by (try dsimp only); grind)
    · dsimp only at h2 ⊢
      by_cases q : x = p
      · rw [q, zu_at, if_pos rfl, hi', ← hp, if_pos d]
      · have hne : ¬ x.toNatClampNeg = p.toNatClampNeg := fun w => q (zinj x p h1 H1 w)
        rw [zu_at, if_neg hne]
        exact H3 x h1 (by grind)
    · dsimp only at h1 ⊢
      have hne : ¬ x.toNatClampNeg = p.toNatClampNeg := fun w => by
        have := zinj x p (by grind) H1 w
        grind
      rw [zu_at, if_neg hne]
      exact H4 x (by grind) h2
  · refine h _ ⟨by (try dsimp only); grind, by (try dsimp only); grind, fun x h1 h2 => ?_, fun x h1 h2 => ?_⟩ (by (try dsimp only); grind) (by (try dsimp only); grind)
    · dsimp only at h2 ⊢
      by_cases q : x = p
      · rw [q, hp, if_neg (by rw [← hp]; exact d)]
      · exact H3 x h1 (by grind)
    · dsimp only at h1 ⊢
      exact H4 x (by grind) h2
/-! groups -/
noncomputable def zMn (x y : Int32) : Int32 := if x < y then x else y
theorem zLesser (x y : Int32) : ∃ z : Int64, fn_X12_lesser x.toInt64 y.toInt64 = some z ∧ z.toInt32 = zMn x y := by
  unfold fn_X12_lesser zMn
  by_cases c : x < y
  · refine ⟨x.toInt64, ?_, by rw [if_pos c, z64_32]⟩
    rw [if_neg (fun q => by have := (z64_le _ _).mp ((lg_cmp_ge _ _).mp q); grind)]
  · refine ⟨y.toInt64, ?_, by rw [if_neg c, z64_32]⟩
    rw [if_pos ((lg_cmp_ge _ _).mpr ((z64_le _ _).mpr (by first | lia | grind)))]
/-- groups merged, as the reference does it -/
noncomputable def zMg (cN i j : Int32) (mG G : Nat → Int32) : Prop := (∀ x : Int32, 0 ≤ x → x < cN → G (14 + x).toNatClampNeg = if mG (14 + x).toNatClampNeg = mG (14 + i).toNatClampNeg ∨ mG (14 + x).toNatClampNeg = mG (14 + j).toNatClampNeg then zMn (mG (14 + i).toNatClampNeg) (mG (14 + j).toNatClampNeg) else mG (14 + x).toNatClampNeg) ∧ (∀ y : Nat, y < 14 → G y = mG y)
noncomputable def zGI (cN p p' : Int32) (mG : Nat → Int32) (c : Int32) (G : Nat → Int32) : Prop := 0 ≤ c ∧ c ≤ cN ∧ (∀ x : Int32, 0 ≤ x → x < c → G (14 + x).toNatClampNeg = if mG (14 + x).toNatClampNeg = mG (14 + p).toNatClampNeg ∨ mG (14 + x).toNatClampNeg = mG (14 + p').toNatClampNeg then zMn (mG (14 + p).toNatClampNeg) (mG (14 + p').toNatClampNeg) else mG (14 + x).toNatClampNeg) ∧ (∀ x : Int32, c ≤ x → x < cN → G (14 + x).toNatClampNeg = mG (14 + x).toNatClampNeg) ∧ (∀ y : Nat, y < 14 → G y = mG y)
theorem zlt_of {a b : Int32} (h : ¬ b ≤ a) : a < b := by lia
theorem z14in {c cN : Int32} (h0 : 0 ≤ c) (h1 : c < cN) (h2 : cN ≤ 14) : 0 ≤ 14 + c ∧ 14 + c < 28 := ⟨by lia, by lia⟩
theorem zmeas {c cN : Int32} (h0 : 0 ≤ c) (h1 : c < cN) (h2 : cN ≤ 14) : 0 ≤ cN - (c + 1) ∧ cN - (c + 1) < cN - c := ⟨by lia, by lia⟩
set_option maxHeartbeats 2000000 in
theorem zGroupS {n a e k s v o got fk fp bg wa cN : Int32} {f g own tab nN jn : Nat → Int32} {mN mNN mG : Nat → Int32} (hn : n ≤ 1200) (ha : 0 ≤ a ∧ a ≤ n) (ht : zTp f g) (ho : ∀ w : Nat, w < 13 → own w = zOwT w) (hT : (∀ k : Nat, k < 71 → tab k = zTab k)) (T : zTok n f g a e k s v o) (hN : mN 1 = cN ∧ 0 ≤ cN ∧ cN ≤ 14) (hnn : zNR 14 cN nN mNN) :
    zw (fn_X5_readGroup got fk fp n e k s v o cN nN f own jn) (fun r => zw (fn_X12_readsGroup n a bg 0 wa 1 g tab mN mNN mG) (fun q =>
      (∃ g' e' k' s' v' o' J z b' G i j, r = (1, g', fk, fp, e', k', s', v', o', J) ∧ q = (z, b', 0, wa, G) ∧ (0 ≤ i ∧ i < cN) ∧ (0 ≤ j ∧ j < cN) ∧ ¬ i = j ∧ (∀ x : Int32, 0 ≤ x → x < cN → J x.toNatClampNeg = if jn x.toNatClampNeg = jn j.toNatClampNeg then jn i.toNatClampNeg else jn x.toNatClampNeg) ∧ zMg cN i j mG G ∧ zNext n f g z (e', k', s', v', o'))
      ∨ zStop r.1 r.2.2.1 r.2.2.2.1 q.2.2.1 q.2.2.2.1 ∧ q.2.2.2.2 = mG)) := by
  unfold fn_X5_readGroup fn_X12_readsGroup
  obtain ⟨p, hp, r1, hr1, q1, hq1, h1⟩ := zTold (got := got) (fk := fk) (fp := fp) (bg := bg) (wa := wa) hn ha ht ho hT T hN hnn
  simp only [hp, zb_some, hr1, hq1]
  rcases h1 with ⟨_, y1, rfl, p1, p2, rfl, ha1, T1⟩ | hst
  · dsimp only
    rw [if_neg (by decide)]
    obtain ⟨p', hp', r2, hr2, q2, hq2, h2⟩ := zTold (got := p) (fk := fk) (fp := fp) (bg := s) (wa := wa) hn ha1 ht ho hT T1 hN hnn
    simp only [hp', zb_some, hr2, hq2]
    rcases h2 with ⟨_, y2, rfl, p3, p4, rfl, ha2, T2⟩ | hst
    · dsimp only
      rw [if_neg (by decide)]
      by_cases d : p' = p
      · simp only [fn_X5_stopAt, if_pos d, if_pos d.symm, zGw_0, zb_some, zFl_0, zj, zGw_n (show ¬ (3 : Int32) = 0 by decide), if_true]
        rw [if_neg (by decide)]
        exact zw_some (zw_some (Or.inr ⟨⟨rfl, show ¬ (3 : Int32) = 0 by decide, rfl, rfl⟩, rfl⟩))
      · have d' : ¬ p = p' := fun q => d q.symm
        obtain ⟨J, hJ, hJ2⟩ := zJoin (jn := jn) ⟨p1, p2⟩ ⟨p3, p4⟩ hN.2.2
        simp only [if_neg d, if_neg d', hJ, zb_some, zGw_0, zj, fn_X12_n, if_neg (show ¬ (1 : Int32) = 0 by decide)]
        obtain ⟨l, hl, hl2⟩ := zLesser (mG (14 + p).toNatClampNeg) (mG (14 + p').toNatClampNeg)
        rw [show (14 * 1 : Int32) = 14 by decide +kernel, show (1 : Int32).toNatClampNeg = 1 by decide +kernel, zg28 p1 p2 hN.2.2, zg28 p3 p4 hN.2.2, hl, zb_some, hl2, hN.1]
        refine zw_some ?_
        refine zw_zl32 (fun t => zGI cN p p' mG t.1 t.2) (fun t => cN - t.1) ⟨by show (0 : Int32) ≤ 0; decide, hN.2.1, fun x h1 h2 => absurd h2 (by show ¬ x < 0; clear hJ2; (first | ((try clear ht); (try clear ho); (try clear hT); (try clear T); (try clear hnn); grind) | grind)), fun x _ _ => rfl, fun y _ => rfl⟩ (by (try dsimp only); (first | ((try clear ht); (try clear ho); (try clear hT); (try clear T); (try clear hnn); grind) | grind)) (fun t back H h => ?_)
        obtain ⟨c, G⟩ := t
        dsimp only at H h ⊢
        obtain ⟨H1, H2, H3, H4, H5⟩ := H
        refine zw_zg32 2 (by decide) (by decide) ?_
        refine zw_if (fun c1 => ?_) (fun c1 => ?_)
        · exact zw_some (Or.inl ⟨_, _, _, _, _, _, J, _, _, G, p, p', rfl, rfl, ⟨p1, p2⟩, ⟨p3, p4⟩, d', hJ2, ⟨fun x x1 x2 => H3 x x1 (by first | lia | (first | ((try clear ht); (try clear ho); (try clear hT); (try clear T); (try clear hnn); grind) | grind)), H5⟩, ha2, T2⟩)
        have hccN : c < cN := zlt_of c1
        have hz14 := z14in H1 hccN hN.2.2
        have hms := zmeas H1 hccN hN.2.2
        have hcv := H4 c (Int32.le_refl _) hccN
        have h14 : ∀ x : Int32, 0 ≤ x → x < cN → ((14 + x).toNatClampNeg = (14 + c).toNatClampNeg ↔ x = c) := by
          intro x x1 x2
          constructor
          · intro w
            have := zinj (14 + x) (14 + c) (by first | lia | (first | ((try clear ht); (try clear ho); (try clear hT); (try clear T); (try clear hnn); (try clear h14); grind) | grind)) (by first | lia | (first | ((try clear ht); (try clear ho); (try clear hT); (try clear T); (try clear hnn); (try clear h14); grind) | grind)) w
            (first | ((try clear ht); (try clear ho); (try clear hT); (try clear T); (try clear hnn); (try clear h14); grind) | grind)
          · intro w; rw [w]
        have hup : (mG (14 + c).toNatClampNeg = mG (14 + p).toNatClampNeg ∨ mG (14 + c).toNatClampNeg = mG (14 + p').toNatClampNeg) → zGI cN p p' mG (c + 1) (upd G (14 + c).toNatClampNeg (zMn (mG (14 + p).toNatClampNeg) (mG (14 + p').toNatClampNeg))) := by
          intro hq
          refine ⟨by first | lia | (first | ((try clear ht); (try clear ho); (try clear hT); (try clear T); (try clear hnn); (try clear h14); grind) | grind), by first | lia | (first | ((try clear ht); (try clear ho); (try clear hT); (try clear T); (try clear hnn); (try clear h14); grind) | grind), fun x x1 x2 => ?_, fun x x1 x2 => ?_, fun y hy => ?_⟩
          · rw [zu_at]
            by_cases w : x = c
            · rw [if_pos ((h14 x x1 (by first | lia | (first | ((try clear ht); (try clear ho); (try clear hT); (try clear T); (try clear hnn); (try clear h14); grind) | grind))).mpr w), w, if_pos hq]
            · rw [if_neg (fun w2 => w ((h14 x x1 (by first | lia | (first | ((try clear ht); (try clear ho); (try clear hT); (try clear T); (try clear hnn); (try clear h14); grind) | grind))).mp w2))]
              exact H3 x x1 (by first | lia | (first | ((try clear ht); (try clear ho); (try clear hT); (try clear T); (try clear hnn); (try clear h14); grind) | grind))
          · rw [zu_at, if_neg (fun w2 => by have := (h14 x (by first | lia | (first | ((try clear ht); (try clear ho); (try clear hT); (try clear T); (try clear hnn); (try clear h14); grind) | grind)) x2).mp w2; (first | ((try clear ht); (try clear ho); (try clear hT); (try clear T); (try clear hnn); (try clear h14); grind) | grind))]
            exact H4 x (by first | lia | (first | ((try clear ht); (try clear ho); (try clear hT); (try clear T); (try clear hnn); (try clear h14); grind) | grind)) x2
          · rw [zu_at, if_neg ?_]
            · exact H5 y hy
            · intro w2
              have e14 := zAdd2 (x := 14) (y := c) (n := 28) (by decide +kernel) (zi_b (c := 14) (n := 14) (by decide +kernel) H1 (by first | lia | (first | ((try clear ht); (try clear ho); (try clear hT); (try clear T); (try clear hnn); (try clear h14); grind) | grind))).1 (by
                have := (zi_b (x := c) (c := 14) (n := 14) (by decide +kernel) H1 (by first | lia | (first | ((try clear ht); (try clear ho); (try clear hT); (try clear T); (try clear hnn); (try clear h14); grind) | grind))).2
                rw [show (14 : Int32).toInt = 14 by decide +kernel]
                omega) (by decide)
              rw [e14.2, show (14 : Int32).toNatClampNeg = 14 by decide +kernel] at w2
              omega
        have hkeep : ¬ (mG (14 + c).toNatClampNeg = mG (14 + p).toNatClampNeg ∨ mG (14 + c).toNatClampNeg = mG (14 + p').toNatClampNeg) → zGI cN p p' mG (c + 1) G := by
          intro hq
          refine ⟨by first | lia | (first | ((try clear ht); (try clear ho); (try clear hT); (try clear T); (try clear hnn); (try clear h14); grind) | grind), by first | lia | (first | ((try clear ht); (try clear ho); (try clear hT); (try clear T); (try clear hnn); (try clear h14); grind) | grind), fun x x1 x2 => ?_, fun x x1 x2 => ?_, H5⟩
          · by_cases w : x = c
            · rw [w, if_neg hq]; exact hcv
            · exact H3 x x1 (by first | lia | (first | ((try clear ht); (try clear ho); (try clear hT); (try clear T); (try clear hnn); (try clear h14); grind) | grind))
          · exact H4 x (by first | lia | (first | ((try clear ht); (try clear ho); (try clear hT); (try clear T); (try clear hnn); (try clear h14); grind) | grind)) x2
        refine zw_zg32 28 (by decide) hz14 ?_
        refine zw_if (fun w => ?_) (fun w => ?_)
        · refine zw_zg32 28 (by decide) hz14 ?_
          exact h _ (hup (Or.inl (hcv.symm.trans w))) hms.1 hms.2
        · refine zw_zg32 28 (by decide) hz14 ?_
          refine zw_if (fun w2 => ?_) (fun w2 => h _ (hkeep (fun q => q.elim (fun z => w (hcv.trans z)) (fun z => w2 (hcv.trans z)))) hms.1 hms.2)
          refine zw_zg32 28 (by decide) hz14 ?_
          exact h _ (hup (Or.inr (hcv.symm.trans w2))) hms.1 hms.2
    · obtain ⟨s1, s2, s3, s4⟩ := hst
      obtain ⟨x1, x2, x3, x4, x5⟩ := q2
      dsimp only at s2 s3 s4 ⊢
      rw [if_pos s1]
      simp only [zGw_n s2, zb_some, if_true, zj]
      exact zw_some (zw_some (Or.inr ⟨⟨rfl, s2, s3, s4⟩, rfl⟩))
  · obtain ⟨s1, s2, s3, s4⟩ := hst
    obtain ⟨x1, x2, x3, x4, x5⟩ := q1
    dsimp only at s2 s3 s4 ⊢
    rw [if_pos s1]
    simp only [zTold_n s2, zGw_n s2, zb_some, if_true, zj]
    exact zw_some (zw_some (Or.inr ⟨⟨rfl, s2, s3, s4⟩, rfl⟩))
/-! a TASK as class and reference hold it (d: where the reference's rows begin) -/
noncomputable def zFm1 (d i : Int32) (nF stp mst prc mNF mS mM mC : Nat → Int32) : Prop := zNm (nF i.toNatClampNeg) (mNF (d + i).toNatClampNeg) ∧ stp i.toNatClampNeg = mS (d + i).toNatClampNeg ∧ mst i.toNatClampNeg = mM (d + i).toNatClampNeg ∧ prc i.toNatClampNeg = mC (d + i).toNatClampNeg ∧ (1 ≤ stp i.toNatClampNeg ∧ stp i.toNatClampNeg ≤ 1000000) ∧ (1 ≤ mst i.toNatClampNeg ∧ mst i.toNatClampNeg ≤ 1000000000) ∧ (0 ≤ prc i.toNatClampNeg ∧ prc i.toNatClampNeg ≤ 999)
noncomputable def zFm (d cF : Int32) (nF stp mst prc mNF mS mM mC : Nat → Int32) : Prop := ∀ i : Int32, 0 ≤ i → i < cF → zFm1 d i nF stp mst prc mNF mS mM mC
noncomputable def zNu1 (d i cF : Int32) (nN op fx al made amt lets mNN mO m1 m2 mX mW : Nat → Int32) (mA mB : Nat → Int64) : Prop :=
  zNm (nN i.toNatClampNeg) (mNN (d + i).toNatClampNeg) ∧ op i.toNatClampNeg = mO (d + i).toNatClampNeg ∧ fx i.toNatClampNeg = mX (d + i).toNatClampNeg ∧ al i.toNatClampNeg = mW (d + i).toNatClampNeg
  ∧ made (2 * i + 0).toNatClampNeg = m1 (d + i).toNatClampNeg ∧ made (2 * i + 1).toNatClampNeg = m2 (d + i).toNatClampNeg ∧ mA (d + i).toNatClampNeg = (amt (2 * i + 0).toNatClampNeg).toInt64 ∧ mB (d + i).toNatClampNeg = (amt (2 * i + 1).toNatClampNeg).toInt64
  ∧ (0 ≤ op i.toNatClampNeg ∧ op i.toNatClampNeg ≤ 5) ∧ ((-1) ≤ fx i.toNatClampNeg ∧ fx i.toNatClampNeg < cF) ∧ ((-1) ≤ al i.toNatClampNeg ∧ al i.toNatClampNeg ≤ 1000000)
  ∧ ((-1) ≤ made (2 * i + 0).toNatClampNeg ∧ made (2 * i + 0).toNatClampNeg < i) ∧ ((-1) ≤ made (2 * i + 1).toNatClampNeg ∧ made (2 * i + 1).toNatClampNeg < i)
  ∧ ((-10000000) ≤ amt (2 * i + 0).toNatClampNeg ∧ amt (2 * i + 0).toNatClampNeg ≤ 10000000) ∧ ((-10000000) ≤ amt (2 * i + 1).toNatClampNeg ∧ amt (2 * i + 1).toNatClampNeg ≤ 10000000)
  ∧ (op i.toNatClampNeg = 0 → made (2 * i + 0).toNatClampNeg = (-1) ∧ made (2 * i + 1).toNatClampNeg = (-1) ∧ amt (2 * i + 0).toNatClampNeg ≤ amt (2 * i + 1).toNatClampNeg)
  ∧ lets i.toNatClampNeg = zDeep (op i.toNatClampNeg) i made lets
noncomputable def zNu (d cN cF : Int32) (nN op fx al made amt lets mNN mO m1 m2 mX mW : Nat → Int32) (mA mB : Nat → Int64) : Prop := ∀ i : Int32, 0 ≤ i → i < cN → zNu1 d i cF nN op fx al made amt lets mNN mO m1 m2 mX mW mA mB
/-- groups: the same classes; the reference names each by its least NUMBER -/
noncomputable def zGr (d cN : Int32) (jn mG : Nat → Int32) : Prop := (∀ i : Int32, 0 ≤ i → i < cN → 0 ≤ mG (d + i).toNatClampNeg ∧ mG (d + i).toNatClampNeg ≤ i ∧ mG (d + mG (d + i).toNatClampNeg).toNatClampNeg = mG (d + i).toNatClampNeg) ∧ (∀ i j : Int32, 0 ≤ i → i < cN → 0 ≤ j → j < cN → (jn i.toNatClampNeg = jn j.toNatClampNeg ↔ mG (d + i).toNatClampNeg = mG (d + j).toNatClampNeg)) ∧ (∀ i : Int32, 0 ≤ i → i < cN → 0 ≤ jn i.toNatClampNeg ∧ jn i.toNatClampNeg < cN)
theorem zNR_F {d cF : Int32} {nF stp mst prc mNF mS mM mC : Nat → Int32} (h : zFm d cF nF stp mst prc mNF mS mM mC) : zNR d cF nF mNF := fun i h1 h2 => (h i h1 h2).1
theorem zNR_N {d cN cF : Int32} {nN op fx al made amt lets mNN mO m1 m2 mX mW : Nat → Int32} {mA mB : Nat → Int64} (h : zNu d cN cF nN op fx al made amt lets mNN mO m1 m2 mX mW mA mB) : zNR d cN nN mNN := fun i h1 h2 => (h i h1 h2).1
theorem zup {f : Nat → Int32} {a b x : Int32} (ha : 0 ≤ a) (hb : 0 ≤ b) : upd f a.toNatClampNeg x b.toNatClampNeg = if b = a then x else f b.toNatClampNeg := by
  rw [zu_at]
  by_cases c : b = a
  · rw [if_pos c, if_pos (by rw [c])]
  · rw [if_neg c, if_neg (fun q => c (zinj b a hb ha q))]
theorem zupL {f : Nat → Int64} {a b : Int32} {x : Int64} (ha : 0 ≤ a) (hb : 0 ≤ b) : vp_updL f a.toNatClampNeg x b.toNatClampNeg = if b = a then x else f b.toNatClampNeg := by
  rw [zu_atL]
  by_cases c : b = a
  · rw [if_pos c, if_pos (by rw [c])]
  · rw [if_neg c, if_neg (fun q => c (zinj b a hb ha q))]
/-- one FORMAT more -/
theorem zFm_add {d cF c m x1 x2 x3 : Int32} {nF stp mst prc mNF mS mM mC : Nat → Int32} (hd : 0 ≤ d ∧ d ≤ 14) (hc : 0 ≤ cF ∧ cF < 4) (h : zFm d cF nF stp mst prc mNF mS mM mC) (hnm : zNm c m) (h1 : 1 ≤ x1 ∧ x1 ≤ 1000000) (h2 : 1 ≤ x2 ∧ x2 ≤ 1000000000) (h3 : 0 ≤ x3 ∧ x3 ≤ 999) :
    zFm d (cF + 1) (upd nF cF.toNatClampNeg c) (upd stp cF.toNatClampNeg x1) (upd mst cF.toNatClampNeg x2) (upd prc cF.toNatClampNeg x3) (upd mNF (d + cF).toNatClampNeg m) (upd mS (d + cF).toNatClampNeg x1) (upd mM (d + cF).toNatClampNeg x2) (upd mC (d + cF).toNatClampNeg x3) := by
  intro i i1 i2
  unfold zFm1
  simp only [zup hc.1 i1, zup (a := d + cF) (b := d + i) (by (first | ((try clear h); (try clear hnm); grind) | grind)) (by (first | ((try clear h); (try clear hnm); grind) | grind))]
  by_cases q : i = cF
  · have q2 : d + i = d + cF := by rw [q]
    simp only [if_pos q, if_pos q2]
    exact ⟨hnm, trivial, trivial, trivial, h1, h2, h3⟩
  · have q2 : ¬ d + i = d + cF := by (first | ((try clear h); (try clear hnm); grind) | grind)
    simp only [if_neg q, if_neg q2]
    exact h i i1 (by (first | ((try clear h); (try clear hnm); grind) | grind))
theorem zNu_F {d cN cF : Int32} {nN op fx al made amt lets mNN mO m1 m2 mX mW : Nat → Int32} {mA mB : Nat → Int64} (h : zNu d cN cF nN op fx al made amt lets mNN mO m1 m2 mX mW mA mB) (hc : cF ≤ 4) : zNu d cN (cF + 1) nN op fx al made amt lets mNN mO m1 m2 mX mW mA mB := by
  intro i i1 i2
  obtain ⟨a1, a2, a3, a4, a5, a6, a7, a8, a9, ⟨b1, b2⟩, rest⟩ := h i i1 i2
  exact ⟨a1, a2, a3, a4, a5, a6, a7, a8, a9, ⟨b1, by (first | ((try clear h); grind) | grind)⟩, rest⟩
theorem zNu_fix {d cN cF p x : Int32} {nN op fx al made amt lets mNN mO m1 m2 mX mW : Nat → Int32} {mA mB : Nat → Int64} (hd : 0 ≤ d ∧ d ≤ 14) (hc : cN ≤ 14) (hp : 0 ≤ p ∧ p < cN) (hx : 0 ≤ x ∧ x < cF) (h : zNu d cN cF nN op fx al made amt lets mNN mO m1 m2 mX mW mA mB) : zNu d cN cF nN op (upd fx p.toNatClampNeg x) al made amt lets mNN mO m1 m2 (upd mX (d + p).toNatClampNeg x) mW mA mB := by
  intro i i1 i2
  obtain ⟨a1, a2, a3, a4, a5, a6, a7, a8, a9, ⟨b1, b2⟩, rest⟩ := h i i1 i2
  refine ⟨a1, a2, ?_, a4, a5, a6, a7, a8, a9, ?_, rest⟩
  · rw [zup hp.1 i1, zup (by (first | ((try clear h); grind) | grind)) (by (first | ((try clear h); grind) | grind))]
    by_cases q : i = p
    · rw [if_pos q, if_pos (by rw [q])]
    · rw [if_neg q, if_neg (by (first | ((try clear h); grind) | grind))]; exact a3
  · rw [zup hp.1 i1]
    by_cases q : i = p
    · rw [if_pos q]; (first | ((try clear h); grind) | grind)
    · rw [if_neg q]; exact ⟨b1, b2⟩
theorem zNu_allow {d cN cF p x : Int32} {nN op fx al made amt lets mNN mO m1 m2 mX mW : Nat → Int32} {mA mB : Nat → Int64} (hd : 0 ≤ d ∧ d ≤ 14) (hc : cN ≤ 14) (hp : 0 ≤ p ∧ p < cN) (hx : 0 ≤ x ∧ x ≤ 1000000) (h : zNu d cN cF nN op fx al made amt lets mNN mO m1 m2 mX mW mA mB) : zNu d cN cF nN op fx (upd al p.toNatClampNeg x) made amt lets mNN mO m1 m2 mX (upd mW (d + p).toNatClampNeg x) mA mB := by
  intro i i1 i2
  obtain ⟨a1, a2, a3, a4, a5, a6, a7, a8, a9, b, ⟨c1, c2⟩, rest⟩ := h i i1 i2
  refine ⟨a1, a2, a3, ?_, a5, a6, a7, a8, a9, b, ?_, rest⟩
  · rw [zup hp.1 i1, zup (by (first | ((try clear h); grind) | grind)) (by (first | ((try clear h); grind) | grind))]
    by_cases q : i = p
    · rw [if_pos q, if_pos (by rw [q])]
    · rw [if_neg q, if_neg (by (first | ((try clear h); grind) | grind))]; exact a4
  · rw [zup hp.1 i1]
    by_cases q : i = p
    · rw [if_pos q]; (first | ((try clear h); grind) | grind)
    · rw [if_neg q]; exact ⟨c1, c2⟩
/-- lets of NUMBERS ahead don't look at the one that is new -/
theorem zDeep_up {w i cN p1 p2 y : Int32} {made lets : Nat → Int32} (hi : 0 ≤ i ∧ i < cN) (hc : cN < 14) : zDeep w i (upd (upd made (2 * cN + 0).toNatClampNeg p1) (2 * cN + 1).toNatClampNeg p2) (upd lets cN.toNatClampNeg y) = zDeep w i made lets := by
  have e : ∀ s : Int32, (s = 0 ∨ s = 1) → zLets i (upd (upd made (2 * cN + 0).toNatClampNeg p1) (2 * cN + 1).toNatClampNeg p2) (upd lets cN.toNatClampNeg y) s = zLets i made lets s := by
    intro s hs
    have eM : upd (upd made (2 * cN + 0).toNatClampNeg p1) (2 * cN + 1).toNatClampNeg p2 (2 * i + s).toNatClampNeg = made (2 * i + s).toNatClampNeg := by
      rw [zup (a := 2 * cN + 1) (b := 2 * i + s) (by (first | ((try clear e); grind) | grind)) (by (first | ((try clear e); grind) | grind)), if_neg (by (first | ((try clear e); grind) | grind)), zup (a := 2 * cN + 0) (b := 2 * i + s) (by (first | ((try clear e); grind) | grind)) (by (first | ((try clear e); grind) | grind)), if_neg (by (first | ((try clear e); grind) | grind))]
    unfold zLets
    rw [eM]
    by_cases q : made (2 * i + s).toNatClampNeg < 0 ∨ i ≤ made (2 * i + s).toNatClampNeg
    · rw [if_pos q, if_pos q]
    · rw [if_neg q, if_neg q, zup (by (first | ((try clear e); grind) | grind)) (by (first | ((try clear e); grind) | grind)), if_neg (by (first | ((try clear e); grind) | grind))]
  unfold zDeep
  rw [e 0 (Or.inl rfl), e 1 (Or.inr rfl)]
theorem zDeep_c {w i : Int32} {M a b : Nat → Int32} (h : ∀ s : Int32, zLets i M a s = zLets i M b s) : zDeep w i M a = zDeep w i M b := by
  unfold zDeep
  rw [h 0, h 1]
/-- one NUMBER more -/
theorem zNu_add {d cN cF c m w p1 p2 x1 x2 : Int32} {nN op fx al made amt lets mNN mO m1 m2 mX mW M1 M2 : Nat → Int32} {mA mB : Nat → Int64} (hd : 0 ≤ d ∧ d ≤ 14) (hc : 0 ≤ cN ∧ cN < 14) (hF : 0 ≤ cF) (h : zNu d cN cF nN op fx al made amt lets mNN mO m1 m2 mX mW mA mB) (hnm : zNm c m) (hw : 0 ≤ w ∧ w ≤ 5) (hp1 : (-1) ≤ p1 ∧ p1 < cN) (hp2 : (-1) ≤ p2 ∧ p2 < cN) (hx1 : (-10000000) ≤ x1 ∧ x1 ≤ 10000000) (hx2 : (-10000000) ≤ x2 ∧ x2 ≤ 10000000) (hin : w = 0 → p1 = (-1) ∧ p2 = (-1) ∧ x1 ≤ x2)
    (hM1 : ∀ b : Int32, 0 ≤ b → M1 b.toNatClampNeg = if b = d + cN then p1 else m1 b.toNatClampNeg) (hM2 : ∀ b : Int32, 0 ≤ b → M2 b.toNatClampNeg = if b = d + cN then p2 else m2 b.toNatClampNeg) :
    zNu d (cN + 1) cF (upd nN cN.toNatClampNeg c) (upd op cN.toNatClampNeg w) (upd fx cN.toNatClampNeg (-1)) (upd al cN.toNatClampNeg (-1)) (upd (upd made (2 * cN + 0).toNatClampNeg p1) (2 * cN + 1).toNatClampNeg p2) (upd (upd amt (2 * cN + 0).toNatClampNeg x1) (2 * cN + 1).toNatClampNeg x2) (upd lets cN.toNatClampNeg (zDeep w cN (upd (upd made (2 * cN + 0).toNatClampNeg p1) (2 * cN + 1).toNatClampNeg p2) lets)) (upd mNN (d + cN).toNatClampNeg m) (upd mO (d + cN).toNatClampNeg w) M1 M2 (upd mX (d + cN).toNatClampNeg (-1)) (upd mW (d + cN).toNatClampNeg (-1)) (vp_updL mA (d + cN).toNatClampNeg x1.toInt64) (vp_updL mB (d + cN).toNatClampNeg x2.toInt64) := by
  intro i i1 i2
  unfold zNu1
  have e0 := zup (f := upd made (2 * cN + 0).toNatClampNeg p1) (a := 2 * cN + 1) (b := 2 * i + 0) (x := p2) (by (first | ((try clear h); (try clear hnm); (try clear hM1); (try clear hM2); grind) | grind)) (by (first | ((try clear h); (try clear hnm); (try clear hM1); (try clear hM2); grind) | grind))
  have e1 := zup (f := made) (a := 2 * cN + 0) (b := 2 * i + 0) (x := p1) (by (first | ((try clear h); (try clear hnm); (try clear hM1); (try clear hM2); grind) | grind)) (by (first | ((try clear h); (try clear hnm); (try clear hM1); (try clear hM2); grind) | grind))
  have e2 := zup (f := upd made (2 * cN + 0).toNatClampNeg p1) (a := 2 * cN + 1) (b := 2 * i + 1) (x := p2) (by (first | ((try clear h); (try clear hnm); (try clear hM1); (try clear hM2); grind) | grind)) (by (first | ((try clear h); (try clear hnm); (try clear hM1); (try clear hM2); grind) | grind))
  have e3 := zup (f := made) (a := 2 * cN + 0) (b := 2 * i + 1) (x := p1) (by (first | ((try clear h); (try clear hnm); (try clear hM1); (try clear hM2); grind) | grind)) (by (first | ((try clear h); (try clear hnm); (try clear hM1); (try clear hM2); grind) | grind))
  have g0 := zup (f := upd amt (2 * cN + 0).toNatClampNeg x1) (a := 2 * cN + 1) (b := 2 * i + 0) (x := x2) (by (first | ((try clear h); (try clear hnm); (try clear hM1); (try clear hM2); grind) | grind)) (by (first | ((try clear h); (try clear hnm); (try clear hM1); (try clear hM2); grind) | grind))
  have g1 := zup (f := amt) (a := 2 * cN + 0) (b := 2 * i + 0) (x := x1) (by (first | ((try clear h); (try clear hnm); (try clear hM1); (try clear hM2); grind) | grind)) (by (first | ((try clear h); (try clear hnm); (try clear hM1); (try clear hM2); grind) | grind))
  have g2 := zup (f := upd amt (2 * cN + 0).toNatClampNeg x1) (a := 2 * cN + 1) (b := 2 * i + 1) (x := x2) (by (first | ((try clear h); (try clear hnm); (try clear hM1); (try clear hM2); grind) | grind)) (by (first | ((try clear h); (try clear hnm); (try clear hM1); (try clear hM2); grind) | grind))
  have g3 := zup (f := amt) (a := 2 * cN + 0) (b := 2 * i + 1) (x := x1) (by (first | ((try clear h); (try clear hnm); (try clear hM1); (try clear hM2); grind) | grind)) (by (first | ((try clear h); (try clear hnm); (try clear hM1); (try clear hM2); grind) | grind))
  by_cases q : i = cN
  · subst q
    rw [if_neg (by (first | ((try clear h); (try clear hnm); (try clear hM1); (try clear hM2); grind) | grind))] at e0 g0
    rw [if_pos rfl] at e1 g1 e2 g2
    have hl : ∀ s : Int32, zLets i (upd (upd made (2 * i + 0).toNatClampNeg p1) (2 * i + 1).toNatClampNeg p2) (upd lets i.toNatClampNeg (zDeep w i (upd (upd made (2 * i + 0).toNatClampNeg p1) (2 * i + 1).toNatClampNeg p2) lets)) s = zLets i (upd (upd made (2 * i + 0).toNatClampNeg p1) (2 * i + 1).toNatClampNeg p2) lets s := by
      intro s
      unfold zLets
      generalize upd (upd made (2 * i + 0).toNatClampNeg p1) (2 * i + 1).toNatClampNeg p2 (2 * i + s).toNatClampNeg = z
      by_cases w1 : z < 0 ∨ i ≤ z
      · rw [if_pos w1, if_pos w1]
      · rw [if_neg w1, if_neg w1, zup i1 (by (first | ((try clear h); (try clear hnm); (try clear hM1); (try clear hM2); (try clear hl); grind) | grind)), if_neg (by (first | ((try clear h); (try clear hnm); (try clear hM1); (try clear hM2); (try clear hl); grind) | grind))]
    simp only [zup i1 i1, if_true, zup (a := d + i) (b := d + i) (by (first | ((try clear h); (try clear hnm); (try clear hM1); (try clear hM2); (try clear hl); grind) | grind)) (by (first | ((try clear h); (try clear hnm); (try clear hM1); (try clear hM2); (try clear hl); grind) | grind)), zupL (a := d + i) (b := d + i) (by (first | ((try clear h); (try clear hnm); (try clear hM1); (try clear hM2); (try clear hl); grind) | grind)) (by (first | ((try clear h); (try clear hnm); (try clear hM1); (try clear hM2); (try clear hl); grind) | grind)), e0, e1, e2, g0, g1, g2, hM1 (d + i) (by (first | ((try clear h); (try clear hnm); (try clear hM1); (try clear hM2); (try clear hl); grind) | grind)), hM2 (d + i) (by (first | ((try clear h); (try clear hnm); (try clear hM1); (try clear hM2); (try clear hl); grind) | grind))]
    refine ⟨hnm, trivial, trivial, trivial, trivial, trivial, trivial, trivial, hw, by (first | ((try clear h); (try clear hnm); (try clear hM1); (try clear hM2); (try clear hl); grind) | grind), by decide, hp1, hp2, hx1, hx2, hin, ?_⟩
    exact (zDeep_c hl).symm
  · have hlt : i < cN := by (first | ((try clear h); (try clear hnm); (try clear hM1); (try clear hM2); (try clear hl); grind) | grind)
    rw [if_neg (by (first | ((try clear h); (try clear hnm); (try clear hM1); (try clear hM2); (try clear hl); grind) | grind))] at e0 g0 e1 g1 e2 g2 e3 g3
    have hd1 : ¬ d + i = d + cN := by (first | ((try clear h); (try clear hnm); (try clear hM1); (try clear hM2); (try clear hl); grind) | grind)
    simp only [zup hc.1 i1, if_neg q, zup (a := d + cN) (b := d + i) (by (first | ((try clear h); (try clear hnm); (try clear hM1); (try clear hM2); (try clear hl); grind) | grind)) (by (first | ((try clear h); (try clear hnm); (try clear hM1); (try clear hM2); (try clear hl); grind) | grind)), zupL (a := d + cN) (b := d + i) (by (first | ((try clear h); (try clear hnm); (try clear hM1); (try clear hM2); (try clear hl); grind) | grind)) (by (first | ((try clear h); (try clear hnm); (try clear hM1); (try clear hM2); (try clear hl); grind) | grind)), if_neg hd1, e0, e1, e2, e3, g0, g1, g2, g3, hM1 (d + i) (by (first | ((try clear h); (try clear hnm); (try clear hM1); (try clear hM2); (try clear hl); grind) | grind)), hM2 (d + i) (by (first | ((try clear h); (try clear hnm); (try clear hM1); (try clear hM2); (try clear hl); grind) | grind)), zDeep_up ⟨i1, hlt⟩ hc.2]
    exact h i i1 hlt
theorem zGr_add {d cN : Int32} {jn mG : Nat → Int32} (hd : 0 ≤ d ∧ d ≤ 14) (hc : 0 ≤ cN ∧ cN < 14) (h : zGr d cN jn mG) : zGr d (cN + 1) (upd jn cN.toNatClampNeg cN) (upd mG (d + cN).toNatClampNeg cN) := by
  obtain ⟨h1, h2, h3⟩ := h
  refine ⟨fun i i1 i2 => ?_, fun i j i1 i2 j1 j2 => ?_, fun i i1 i2 => ?_⟩
  · rw [zup (a := d + cN) (b := d + i) (by (first | ((try clear h); grind) | grind)) (by (first | ((try clear h); grind) | grind))]
    by_cases q : i = cN
    · subst q
      rw [if_pos rfl, zup (by (first | ((try clear h); grind) | grind)) (by (first | ((try clear h); grind) | grind)), if_pos rfl]
      exact ⟨i1, by (first | ((try clear h); grind) | grind), rfl⟩
    · rw [if_neg (by (first | ((try clear h); grind) | grind))]
      obtain ⟨w1, w2, w3⟩ := h1 i i1 (by (first | ((try clear h); grind) | grind))
      rw [zup (by (first | ((try clear h); grind) | grind)) (by (first | ((try clear h); grind) | grind)), if_neg (by (first | ((try clear h); grind) | grind))]
      exact ⟨w1, w2, w3⟩
  · rw [zup hc.1 i1, zup hc.1 j1, zup (a := d + cN) (b := d + i) (by (first | ((try clear h); grind) | grind)) (by (first | ((try clear h); grind) | grind)), zup (a := d + cN) (b := d + j) (by (first | ((try clear h); grind) | grind)) (by (first | ((try clear h); grind) | grind))]
    by_cases qi : i = cN
    · by_cases qj : j = cN
      · rw [if_pos qi, if_pos qj, if_pos (by (first | ((try clear h); grind) | grind)), if_pos (by (first | ((try clear h); grind) | grind))]
      · rw [if_pos qi, if_neg qj, if_pos (by (first | ((try clear h); grind) | grind)), if_neg (by (first | ((try clear h); grind) | grind))]
        have w1 := h3 j j1 (by (first | ((try clear h); grind) | grind))
        have w2 := h1 j j1 (by (first | ((try clear h); grind) | grind))
        constructor
        · intro w; (first | ((try clear h); grind) | grind)
        · intro w; (first | ((try clear h); grind) | grind)
    · by_cases qj : j = cN
      · rw [if_neg qi, if_pos qj, if_neg (by (first | ((try clear h); grind) | grind)), if_pos (by (first | ((try clear h); grind) | grind))]
        have w1 := h3 i i1 (by (first | ((try clear h); grind) | grind))
        have w2 := h1 i i1 (by (first | ((try clear h); grind) | grind))
        constructor
        · intro w; (first | ((try clear h); grind) | grind)
        · intro w; (first | ((try clear h); grind) | grind)
      · rw [if_neg qi, if_neg qj, if_neg (by (first | ((try clear h); grind) | grind)), if_neg (by (first | ((try clear h); grind) | grind))]
        exact h2 i j i1 (by (first | ((try clear h); grind) | grind)) j1 (by (first | ((try clear h); grind) | grind))
  · rw [zup hc.1 i1]
    by_cases q : i = cN
    · rw [if_pos q]; (first | ((try clear h); grind) | grind)
    · rw [if_neg q]
      have := h3 i i1 (by (first | ((try clear h); grind) | grind))
      (first | ((try clear h); grind) | grind)
theorem zGr_merge {cN p p' : Int32} {jn mG J G : Nat → Int32} (hc : cN ≤ 14) (hp : 0 ≤ p ∧ p < cN) (hp' : 0 ≤ p' ∧ p' < cN) (h : zGr 14 cN jn mG) (hJ : ∀ x : Int32, 0 ≤ x → x < cN → J x.toNatClampNeg = if jn x.toNatClampNeg = jn p'.toNatClampNeg then jn p.toNatClampNeg else jn x.toNatClampNeg) (hG : zMg cN p p' mG G) : zGr 14 cN J G := by
  obtain ⟨h1, h2, h3⟩ := h
  obtain ⟨hG, _⟩ := hG
  have a1 := h1 p hp.1 hp.2
  have a2 := h1 p' hp'.1 hp'.2
  refine ⟨fun i i1 i2 => ?_, fun i j i1 i2 j1 j2 => ?_, fun i i1 i2 => ?_⟩
  · have a3 := h1 i i1 i2
    rw [hG i i1 i2]
    by_cases q : mG (14 + i).toNatClampNeg = mG (14 + p).toNatClampNeg ∨ mG (14 + i).toNatClampNeg = mG (14 + p').toNatClampNeg
    · rw [if_pos q]
      have hm : zMn (mG (14 + p).toNatClampNeg) (mG (14 + p').toNatClampNeg) = mG (14 + p).toNatClampNeg ∨ zMn (mG (14 + p).toNatClampNeg) (mG (14 + p').toNatClampNeg) = mG (14 + p').toNatClampNeg := by
        unfold zMn
        split
        · exact Or.inl rfl
        · exact Or.inr rfl
      have hle : zMn (mG (14 + p).toNatClampNeg) (mG (14 + p').toNatClampNeg) ≤ mG (14 + p).toNatClampNeg ∧ zMn (mG (14 + p).toNatClampNeg) (mG (14 + p').toNatClampNeg) ≤ mG (14 + p').toNatClampNeg := by
        unfold zMn
        split
        · (first | ((try clear h); (try clear hJ); grind) | grind)
        · (first | ((try clear h); (try clear hJ); grind) | grind)
      have h0 : 0 ≤ zMn (mG (14 + p).toNatClampNeg) (mG (14 + p').toNatClampNeg) := by
        rcases hm with w | w
        · rw [w]; exact a1.1
        · rw [w]; exact a2.1
      refine ⟨h0, by (first | ((try clear h); (try clear hJ); grind) | grind), ?_⟩
      rw [hG _ h0 (by (first | ((try clear h); (try clear hJ); grind) | grind))]
      rcases hm with w | w
      · rw [if_pos (by rw [w]; exact Or.inl a1.2.2)]
      · rw [if_pos (by rw [w]; exact Or.inr a2.2.2)]
    · rw [if_neg q]
      refine ⟨a3.1, a3.2.1, ?_⟩
      rw [hG _ a3.1 (by (first | ((try clear h); (try clear hJ); grind) | grind)), a3.2.2, if_neg q]
  · rw [hJ i i1 i2, hJ j j1 j2, hG i i1 i2, hG j j1 j2]
    have b1 := h2 i p i1 i2 hp.1 hp.2
    have b2 := h2 i p' i1 i2 hp'.1 hp'.2
    have b3 := h2 j p j1 j2 hp.1 hp.2
    have b4 := h2 j p' j1 j2 hp'.1 hp'.2
    have b5 := h2 i j i1 i2 j1 j2
    have b6 := h2 p p' hp.1 hp.2 hp'.1 hp'.2
    have hm : zMn (mG (14 + p).toNatClampNeg) (mG (14 + p').toNatClampNeg) = mG (14 + p).toNatClampNeg ∨ zMn (mG (14 + p).toNatClampNeg) (mG (14 + p').toNatClampNeg) = mG (14 + p').toNatClampNeg := by
      unfold zMn
      split
      · exact Or.inl rfl
      · exact Or.inr rfl
    generalize zMn (mG (14 + p).toNatClampNeg) (mG (14 + p').toNatClampNeg) = z at hm ⊢
    generalize mG (14 + i).toNatClampNeg = gi at *
    generalize mG (14 + j).toNatClampNeg = gj at *
    generalize mG (14 + p).toNatClampNeg = gp at *
    generalize mG (14 + p').toNatClampNeg = gq at *
    generalize jn i.toNatClampNeg = ji at *
    generalize jn j.toNatClampNeg = jj at *
    generalize jn p.toNatClampNeg = jp at *
    generalize jn p'.toNatClampNeg = jq at *
    clear h1 h2 h3 hJ hG
    (first | ((try clear h); (try clear hJ); grind) | grind)
  · rw [hJ i i1 i2]
    split
    · exact h3 p hp.1 hp.2
    · exact h3 i i1 i2
/-! a TASK that is being read: class and reference -/
noncomputable def zCnt (op : Nat → Int32) : Nat → Int32
  | 0 => 0
  | k + 1 => zCnt op k + (if op k = 0 then 1 else 0)
noncomputable def zTS (cF cc cN inp : Int32) (nF nN stp mst prc al made amt op fx jn lets : Nat → Int32) (mF mN mNF mNN mS mM mC mW mCst mO m1 m2 mX mG : Nat → Int32) (mA mB : Nat → Int64) : Prop := (mF 1 = cF ∧ 0 ≤ cF ∧ cF ≤ 4) ∧ (mN 1 = cN ∧ 0 ≤ cN ∧ cN ≤ 14) ∧ (mCst 1 = cc ∧ 0 ≤ cc ∧ cc ≤ 999) ∧ inp = zCnt op cN.toNatClampNeg ∧ zFm 4 cF nF stp mst prc mNF mS mM mC ∧ zNu 14 cN cF nN op fx al made amt lets mNN mO m1 m2 mX mW mA mB ∧ zGr 14 cN jn mG
noncomputable def zK4 (A B : Nat → Int32) : Prop := ∀ y : Nat, y < 4 → B y = A y
noncomputable def zK14 (A B : Nat → Int32) : Prop := ∀ y : Nat, y < 14 → B y = A y
noncomputable def zL14 (A B : Nat → Int64) : Prop := ∀ y : Nat, y < 14 → B y = A y
noncomputable def zFR (mF mN mNF mNN mS mM mC mW mCst mO m1 m2 mX mG : Nat → Int32) (mA mB : Nat → Int64) (mF' mN' mNF' mNN' mS' mM' mC' mW' mCst' mO' m1' m2' mX' mG' : Nat → Int32) (mA' mB' : Nat → Int64) : Prop := mF' 0 = mF 0 ∧ mN' 0 = mN 0 ∧ zK4 mNF mNF' ∧ zK14 mNN mNN' ∧ zK4 mS mS' ∧ zK4 mM mM' ∧ zK4 mC mC' ∧ zK14 mW mW' ∧ mCst' 0 = mCst 0 ∧ zK14 mO mO' ∧ zK14 m1 m1' ∧ zK14 m2 m2' ∧ zK14 mX mX' ∧ zK14 mG mG' ∧ zL14 mA mA' ∧ zL14 mB mB'
theorem zFR_rf {mF mN mNF mNN mS mM mC mW mCst mO m1 m2 mX mG : Nat → Int32} {mA mB : Nat → Int64} : zFR mF mN mNF mNN mS mM mC mW mCst mO m1 m2 mX mG mA mB mF mN mNF mNN mS mM mC mW mCst mO m1 m2 mX mG mA mB := ⟨rfl, rfl, (fun _ _ => rfl), (fun _ _ => rfl), (fun _ _ => rfl), (fun _ _ => rfl), (fun _ _ => rfl), (fun _ _ => rfl), rfl, (fun _ _ => rfl), (fun _ _ => rfl), (fun _ _ => rfl), (fun _ _ => rfl), (fun _ _ => rfl), (fun _ _ => rfl), (fun _ _ => rfl)⟩
theorem zK4_up {A : Nat → Int32} {i x : Int32} (h : 0 ≤ i ∧ i < 4) : zK4 A (upd A (4 + i).toNatClampNeg x) := by
  intro y hy
  show (if y = (4 + i).toNatClampNeg then x else A y) = A y
  rw [if_neg]
  intro q
  have h1 := Int32.le_iff_toInt_le.mp h.1
  have h2 := Int32.lt_iff_toInt_lt.mp h.2
  rw [zi_0] at h1
  rw [show (4 : Int32).toInt = 4 by decide +kernel] at h2
  have h3 := zo_add (x := 4) (y := i) (z := 4 + i) rfl (by decide +kernel : (4 : Int32).toInt = 4) rfl (by omega)
  have h4 : (4 + i).toNatClampNeg = (4 + i).toInt.toNat := rfl
  omega
theorem zi14 {i : Int32} (h : 0 ≤ i ∧ i < 14) : 14 ≤ (14 + i).toNatClampNeg := by
  have h1 := Int32.le_iff_toInt_le.mp h.1
  have h2 := Int32.lt_iff_toInt_lt.mp h.2
  rw [zi_0] at h1
  rw [show (14 : Int32).toInt = 14 by decide +kernel] at h2
  have h3 := zo_add (x := 14) (y := i) (z := 14 + i) rfl (by decide +kernel : (14 : Int32).toInt = 14) rfl (by omega)
  show 14 ≤ (14 + i).toInt.toNat
  omega
theorem zK14_up {A : Nat → Int32} {i x : Int32} (h : 0 ≤ i ∧ i < 14) : zK14 A (upd A (14 + i).toNatClampNeg x) := by
  intro y hy
  have := zi14 h
  show (if y = (14 + i).toNatClampNeg then x else A y) = A y
  rw [if_neg (by omega)]
theorem zK14_up2 {A : Nat → Int32} {i x z : Int32} (h : 0 ≤ i ∧ i < 14) : zK14 A (upd (upd A (14 + i).toNatClampNeg z) (14 + i).toNatClampNeg x) := by
  intro y hy
  have := zi14 h
  show (if y = (14 + i).toNatClampNeg then x else if y = (14 + i).toNatClampNeg then z else A y) = A y
  rw [if_neg (by omega), if_neg (by omega)]
theorem zL14_up {A : Nat → Int64} {i : Int32} {x : Int64} (h : 0 ≤ i ∧ i < 14) : zL14 A (vp_updL A (14 + i).toNatClampNeg x) := by
  intro y hy
  have := zi14 h
  show (if y = (14 + i).toNatClampNeg then x else A y) = A y
  rw [if_neg (by omega)]
theorem zCnt_up {op : Nat → Int32} {w : Int32} : ∀ {k j : Nat}, k ≤ j → zCnt (upd op j w) k = zCnt op k := by
  intro k
  induction k with
  | zero => intro j _; rfl
  | succ k ih =>
    intro j hj
    show zCnt (upd op j w) k + (if upd op j w k = 0 then 1 else 0) = zCnt op k + (if op k = 0 then 1 else 0)
    rw [ih (by omega), show upd op j w k = op k from if_neg (by omega)]
theorem zCnt_add {op : Nat → Int32} {w cN : Int32} (h : 0 ≤ cN ∧ cN < 14) : zCnt (upd op cN.toNatClampNeg w) (cN + 1).toNatClampNeg = zCnt op cN.toNatClampNeg + (if w = 0 then 1 else 0) := by
  rw [zNx h.1 (by grind)]
  show zCnt (upd op cN.toNatClampNeg w) cN.toNatClampNeg + (if upd op cN.toNatClampNeg w cN.toNatClampNeg = 0 then 1 else 0) = _
  rw [zCnt_up (Nat.le_refl _), show upd op cN.toNatClampNeg w cN.toNatClampNeg = w from if_pos rfl]
theorem zup_tw {f : Nat → Int32} {a x z : Int32} (ha : 0 ≤ a) : ∀ b : Int32, 0 ≤ b → upd (upd f a.toNatClampNeg z) a.toNatClampNeg x b.toNatClampNeg = if b = a then x else f b.toNatClampNeg := by
  intro b hb
  rw [zup ha hb, zup ha hb]
  by_cases q : b = a
  · rw [if_pos q, if_pos q]
  · rw [if_neg q, if_neg q, if_neg q]
theorem zTS_fmt {cF cc cN inp : Int32} {nF nN stp mst prc al made amt op fx jn lets : Nat → Int32} {mF mN mNF mNN mS mM mC mW mCst mO m1 m2 mX mG : Nat → Int32} {mA mB : Nat → Int64} {c m x1 x2 x3 : Int32} (h : zTS cF cc cN inp nF nN stp mst prc al made amt op fx jn lets mF mN mNF mNN mS mM mC mW mCst mO m1 m2 mX mG mA mB) (hc : cF < 4) (hnm : zNm c m) (h1 : 1 ≤ x1 ∧ x1 ≤ 1000000) (h2 : 1 ≤ x2 ∧ x2 ≤ 1000000000) (h3 : 0 ≤ x3 ∧ x3 ≤ 999) : zTS (cF + 1) cc cN inp (upd nF cF.toNatClampNeg c) nN (upd stp cF.toNatClampNeg x1) (upd mst cF.toNatClampNeg x2) (upd prc cF.toNatClampNeg x3) al made amt op fx jn lets (upd mF 1 (cF + 1)) mN (upd mNF (4 + cF).toNatClampNeg m) mNN (upd mS (4 + cF).toNatClampNeg x1) (upd mM (4 + cF).toNatClampNeg x2) (upd mC (4 + cF).toNatClampNeg x3) mW mCst mO m1 m2 mX mG mA mB ∧ zFR mF mN mNF mNN mS mM mC mW mCst mO m1 m2 mX mG mA mB (upd mF 1 (cF + 1)) mN (upd mNF (4 + cF).toNatClampNeg m) mNN (upd mS (4 + cF).toNatClampNeg x1) (upd mM (4 + cF).toNatClampNeg x2) (upd mC (4 + cF).toNatClampNeg x3) mW mCst mO m1 m2 mX mG mA mB := by
  obtain ⟨hF, hN, hC, hI, hfm, hnu, hgr⟩ := h
  exact ⟨⟨⟨rfl, by (first | ((try clear h); (try clear hnm); grind) | grind), by (first | ((try clear h); (try clear hnm); grind) | grind)⟩, hN, hC, hI, zFm_add ⟨by decide, by decide⟩ ⟨hF.2.1, hc⟩ hfm hnm h1 h2 h3, zNu_F hnu (by (first | ((try clear h); (try clear hnm); grind) | grind)), hgr⟩, ⟨rfl, rfl, (zK4_up ⟨hF.2.1, hc⟩), (fun _ _ => rfl), (zK4_up ⟨hF.2.1, hc⟩), (zK4_up ⟨hF.2.1, hc⟩), (zK4_up ⟨hF.2.1, hc⟩), (fun _ _ => rfl), rfl, (fun _ _ => rfl), (fun _ _ => rfl), (fun _ _ => rfl), (fun _ _ => rfl), (fun _ _ => rfl), (fun _ _ => rfl), (fun _ _ => rfl)⟩⟩
theorem zTS_cast {cF cc cN inp : Int32} {nF nN stp mst prc al made amt op fx jn lets : Nat → Int32} {mF mN mNF mNN mS mM mC mW mCst mO m1 m2 mX mG : Nat → Int32} {mA mB : Nat → Int64} {x : Int32} (h : zTS cF cc cN inp nF nN stp mst prc al made amt op fx jn lets mF mN mNF mNN mS mM mC mW mCst mO m1 m2 mX mG mA mB) (hx : 0 ≤ x ∧ x ≤ 999) : zTS cF x cN inp nF nN stp mst prc al made amt op fx jn lets mF mN mNF mNN mS mM mC mW (upd mCst 1 x) mO m1 m2 mX mG mA mB ∧ zFR mF mN mNF mNN mS mM mC mW mCst mO m1 m2 mX mG mA mB mF mN mNF mNN mS mM mC mW (upd mCst 1 x) mO m1 m2 mX mG mA mB := by
  obtain ⟨hF, hN, hC, hI, hfm, hnu, hgr⟩ := h
  exact ⟨⟨hF, hN, ⟨rfl, hx.1, hx.2⟩, hI, hfm, hnu, hgr⟩, ⟨rfl, rfl, (fun _ _ => rfl), (fun _ _ => rfl), (fun _ _ => rfl), (fun _ _ => rfl), (fun _ _ => rfl), (fun _ _ => rfl), rfl, (fun _ _ => rfl), (fun _ _ => rfl), (fun _ _ => rfl), (fun _ _ => rfl), (fun _ _ => rfl), (fun _ _ => rfl), (fun _ _ => rfl)⟩⟩
theorem zTS_let {cF cc cN inp : Int32} {nF nN stp mst prc al made amt op fx jn lets : Nat → Int32} {mF mN mNF mNN mS mM mC mW mCst mO m1 m2 mX mG : Nat → Int32} {mA mB : Nat → Int64} {c m w p1 p2 x1 x2 : Int32} (h : zTS cF cc cN inp nF nN stp mst prc al made amt op fx jn lets mF mN mNF mNN mS mM mC mW mCst mO m1 m2 mX mG mA mB) (hc : cN < 14) (hnm : zNm c m) (hw : 1 ≤ w ∧ w ≤ 5) (hp1 : (-1) ≤ p1 ∧ p1 < cN) (hp2 : (-1) ≤ p2 ∧ p2 < cN) (hx1 : (-1000000) ≤ x1 ∧ x1 ≤ 1000000) (hx2 : (-1000000) ≤ x2 ∧ x2 ≤ 1000000) : zTS cF cc (cN + 1) inp nF (upd nN cN.toNatClampNeg c) stp mst prc (upd al cN.toNatClampNeg (-1)) (upd (upd made (2 * cN + 0).toNatClampNeg p1) (2 * cN + 1).toNatClampNeg p2) (upd (upd amt (2 * cN + 0).toNatClampNeg x1) (2 * cN + 1).toNatClampNeg x2) (upd op cN.toNatClampNeg w) (upd fx cN.toNatClampNeg (-1)) (upd jn cN.toNatClampNeg cN) (upd lets cN.toNatClampNeg (zDeep w cN (upd (upd made (2 * cN + 0).toNatClampNeg p1) (2 * cN + 1).toNatClampNeg p2) lets)) mF (upd mN 1 (cN + 1)) mNF (upd mNN (14 + cN).toNatClampNeg m) mS mM mC (upd mW (14 + cN).toNatClampNeg (-1)) mCst (upd mO (14 + cN).toNatClampNeg w) (upd (upd m1 (14 + cN).toNatClampNeg (-1)) (14 + cN).toNatClampNeg p1) (upd (upd m2 (14 + cN).toNatClampNeg (-1)) (14 + cN).toNatClampNeg p2) (upd mX (14 + cN).toNatClampNeg (-1)) (upd mG (14 + cN).toNatClampNeg cN) (vp_updL mA (14 + cN).toNatClampNeg x1.toInt64) (vp_updL mB (14 + cN).toNatClampNeg x2.toInt64) ∧ zFR mF mN mNF mNN mS mM mC mW mCst mO m1 m2 mX mG mA mB mF (upd mN 1 (cN + 1)) mNF (upd mNN (14 + cN).toNatClampNeg m) mS mM mC (upd mW (14 + cN).toNatClampNeg (-1)) mCst (upd mO (14 + cN).toNatClampNeg w) (upd (upd m1 (14 + cN).toNatClampNeg (-1)) (14 + cN).toNatClampNeg p1) (upd (upd m2 (14 + cN).toNatClampNeg (-1)) (14 + cN).toNatClampNeg p2) (upd mX (14 + cN).toNatClampNeg (-1)) (upd mG (14 + cN).toNatClampNeg cN) (vp_updL mA (14 + cN).toNatClampNeg x1.toInt64) (vp_updL mB (14 + cN).toNatClampNeg x2.toInt64) := by
  obtain ⟨hF, hN, hC, hI, hfm, hnu, hgr⟩ := h
  have h14 : 0 ≤ 14 + cN := by (first | ((try clear h); (try clear hnm); grind) | grind)
  refine ⟨⟨hF, ⟨rfl, by (first | ((try clear h); (try clear hnm); grind) | grind), by (first | ((try clear h); (try clear hnm); grind) | grind)⟩, hC, ?_, hfm, zNu_add ⟨by decide, by decide⟩ ⟨hN.2.1, hc⟩ hF.2.1 hnu hnm ⟨by (first | ((try clear h); (try clear hnm); grind) | grind), hw.2⟩ hp1 hp2 ⟨by (first | ((try clear h); (try clear hnm); grind) | grind), by (first | ((try clear h); (try clear hnm); grind) | grind)⟩ ⟨by (first | ((try clear h); (try clear hnm); grind) | grind), by (first | ((try clear h); (try clear hnm); grind) | grind)⟩ (fun q => absurd q (by (first | ((try clear h); (try clear hnm); grind) | grind))) (zup_tw h14) (zup_tw h14), zGr_add ⟨by decide, by decide⟩ ⟨hN.2.1, hc⟩ hgr⟩, ⟨rfl, rfl, (fun _ _ => rfl), (zK14_up ⟨hN.2.1, hc⟩), (fun _ _ => rfl), (fun _ _ => rfl), (fun _ _ => rfl), (zK14_up ⟨hN.2.1, hc⟩), rfl, (zK14_up ⟨hN.2.1, hc⟩), (zK14_up2 ⟨hN.2.1, hc⟩), (zK14_up2 ⟨hN.2.1, hc⟩), (zK14_up ⟨hN.2.1, hc⟩), (zK14_up ⟨hN.2.1, hc⟩), (zL14_up ⟨hN.2.1, hc⟩), (zL14_up ⟨hN.2.1, hc⟩)⟩⟩
  rw [zCnt_add ⟨hN.2.1, hc⟩, if_neg (by (first | ((try clear h); (try clear hnm); grind) | grind)), hI]
  (first | ((try clear h); (try clear hnm); grind) | grind)
theorem zDeep_0 {cN : Int32} {a b : Nat → Int32} : zDeep 0 cN a b = 0 := rfl
theorem zTS_box {cF cc cN inp : Int32} {nF nN stp mst prc al made amt op fx jn lets : Nat → Int32} {mF mN mNF mNN mS mM mC mW mCst mO m1 m2 mX mG : Nat → Int32} {mA mB : Nat → Int64} {c m x1 x2 : Int32} (h : zTS cF cc cN inp nF nN stp mst prc al made amt op fx jn lets mF mN mNF mNN mS mM mC mW mCst mO m1 m2 mX mG mA mB) (hc : cN < 14) (hnm : zNm c m) (l1 : (-10000000) ≤ x1) (l2 : x1 ≤ x2) (l3 : x2 ≤ 10000000) : zTS cF cc (cN + 1) (inp + 1) nF (upd nN cN.toNatClampNeg c) stp mst prc (upd al cN.toNatClampNeg (-1)) (upd (upd made (2 * cN + 0).toNatClampNeg (-1)) (2 * cN + 1).toNatClampNeg (-1)) (upd (upd amt (2 * cN + 0).toNatClampNeg x1) (2 * cN + 1).toNatClampNeg x2) (upd op cN.toNatClampNeg 0) (upd fx cN.toNatClampNeg (-1)) (upd jn cN.toNatClampNeg cN) (upd lets cN.toNatClampNeg 0) mF (upd mN 1 (cN + 1)) mNF (upd mNN (14 + cN).toNatClampNeg m) mS mM mC (upd mW (14 + cN).toNatClampNeg (-1)) mCst (upd mO (14 + cN).toNatClampNeg 0) (upd m1 (14 + cN).toNatClampNeg (-1)) (upd m2 (14 + cN).toNatClampNeg (-1)) (upd mX (14 + cN).toNatClampNeg (-1)) (upd mG (14 + cN).toNatClampNeg cN) (vp_updL mA (14 + cN).toNatClampNeg x1.toInt64) (vp_updL mB (14 + cN).toNatClampNeg x2.toInt64) ∧ zFR mF mN mNF mNN mS mM mC mW mCst mO m1 m2 mX mG mA mB mF (upd mN 1 (cN + 1)) mNF (upd mNN (14 + cN).toNatClampNeg m) mS mM mC (upd mW (14 + cN).toNatClampNeg (-1)) mCst (upd mO (14 + cN).toNatClampNeg 0) (upd m1 (14 + cN).toNatClampNeg (-1)) (upd m2 (14 + cN).toNatClampNeg (-1)) (upd mX (14 + cN).toNatClampNeg (-1)) (upd mG (14 + cN).toNatClampNeg cN) (vp_updL mA (14 + cN).toNatClampNeg x1.toInt64) (vp_updL mB (14 + cN).toNatClampNeg x2.toInt64) := by
  obtain ⟨hF, hN, hC, hI, hfm, hnu, hgr⟩ := h
  have h14 : 0 ≤ 14 + cN := by (first | ((try clear h); (try clear hnm); grind) | grind)
  have hz : zDeep 0 cN (upd (upd made (2 * cN + 0).toNatClampNeg (-1)) (2 * cN + 1).toNatClampNeg (-1)) lets = 0 := rfl
  have hnu' := zNu_add (w := 0) (p1 := -1) (p2 := -1) (x1 := x1) (x2 := x2) ⟨by decide, by decide⟩ ⟨hN.2.1, hc⟩ hF.2.1 hnu hnm ⟨by decide, by decide⟩ ⟨by decide, by (first | ((try clear h); (try clear hnm); grind) | grind)⟩ ⟨by decide, by (first | ((try clear h); (try clear hnm); grind) | grind)⟩ ⟨l1, by (first | ((try clear h); (try clear hnm); grind) | grind)⟩ ⟨by (first | ((try clear h); (try clear hnm); grind) | grind), l3⟩ (fun _ => ⟨rfl, rfl, l2⟩) (fun b hb => zup h14 hb) (fun b hb => zup h14 hb)
  rw [hz] at hnu'
  refine ⟨⟨hF, ⟨rfl, by (first | ((try clear h); (try clear hnm); (try clear hb); grind) | grind), by (first | ((try clear h); (try clear hnm); (try clear hb); grind) | grind)⟩, hC, ?_, hfm, hnu', zGr_add ⟨by decide, by decide⟩ ⟨hN.2.1, hc⟩ hgr⟩, ⟨rfl, rfl, (fun _ _ => rfl), (zK14_up ⟨hN.2.1, hc⟩), (fun _ _ => rfl), (fun _ _ => rfl), (fun _ _ => rfl), (zK14_up ⟨hN.2.1, hc⟩), rfl, (zK14_up ⟨hN.2.1, hc⟩), (zK14_up ⟨hN.2.1, hc⟩), (zK14_up ⟨hN.2.1, hc⟩), (zK14_up ⟨hN.2.1, hc⟩), (zK14_up ⟨hN.2.1, hc⟩), (zL14_up ⟨hN.2.1, hc⟩), (zL14_up ⟨hN.2.1, hc⟩)⟩⟩
  rw [zCnt_add ⟨hN.2.1, hc⟩, if_pos rfl, hI]
theorem zTS_fix {cF cc cN inp : Int32} {nF nN stp mst prc al made amt op fx jn lets : Nat → Int32} {mF mN mNF mNN mS mM mC mW mCst mO m1 m2 mX mG : Nat → Int32} {mA mB : Nat → Int64} {i x : Int32} (h : zTS cF cc cN inp nF nN stp mst prc al made amt op fx jn lets mF mN mNF mNN mS mM mC mW mCst mO m1 m2 mX mG mA mB) (hi : 0 ≤ i ∧ i < cN) (hx : 0 ≤ x ∧ x < cF) : zTS cF cc cN inp nF nN stp mst prc al made amt op (upd fx i.toNatClampNeg x) jn lets mF mN mNF mNN mS mM mC mW mCst mO m1 m2 (upd mX (14 + i).toNatClampNeg x) mG mA mB ∧ zFR mF mN mNF mNN mS mM mC mW mCst mO m1 m2 mX mG mA mB mF mN mNF mNN mS mM mC mW mCst mO m1 m2 (upd mX (14 + i).toNatClampNeg x) mG mA mB := by
  obtain ⟨hF, hN, hC, hI, hfm, hnu, hgr⟩ := h
  exact ⟨⟨hF, hN, hC, hI, hfm, zNu_fix ⟨by decide, by decide⟩ hN.2.2 hi hx hnu, hgr⟩, ⟨rfl, rfl, (fun _ _ => rfl), (fun _ _ => rfl), (fun _ _ => rfl), (fun _ _ => rfl), (fun _ _ => rfl), (fun _ _ => rfl), rfl, (fun _ _ => rfl), (fun _ _ => rfl), (fun _ _ => rfl), (zK14_up ⟨hi.1, by (first | ((try clear h); grind) | grind)⟩), (fun _ _ => rfl), (fun _ _ => rfl), (fun _ _ => rfl)⟩⟩
theorem zTS_alw {cF cc cN inp : Int32} {nF nN stp mst prc al made amt op fx jn lets : Nat → Int32} {mF mN mNF mNN mS mM mC mW mCst mO m1 m2 mX mG : Nat → Int32} {mA mB : Nat → Int64} {i x : Int32} (h : zTS cF cc cN inp nF nN stp mst prc al made amt op fx jn lets mF mN mNF mNN mS mM mC mW mCst mO m1 m2 mX mG mA mB) (hi : 0 ≤ i ∧ i < cN) (hx : 0 ≤ x ∧ x ≤ 1000000) : zTS cF cc cN inp nF nN stp mst prc (upd al i.toNatClampNeg x) made amt op fx jn lets mF mN mNF mNN mS mM mC (upd mW (14 + i).toNatClampNeg x) mCst mO m1 m2 mX mG mA mB ∧ zFR mF mN mNF mNN mS mM mC mW mCst mO m1 m2 mX mG mA mB mF mN mNF mNN mS mM mC (upd mW (14 + i).toNatClampNeg x) mCst mO m1 m2 mX mG mA mB := by
  obtain ⟨hF, hN, hC, hI, hfm, hnu, hgr⟩ := h
  exact ⟨⟨hF, hN, hC, hI, hfm, zNu_allow ⟨by decide, by decide⟩ hN.2.2 hi hx hnu, hgr⟩, ⟨rfl, rfl, (fun _ _ => rfl), (fun _ _ => rfl), (fun _ _ => rfl), (fun _ _ => rfl), (fun _ _ => rfl), (zK14_up ⟨hi.1, by (first | ((try clear h); grind) | grind)⟩), rfl, (fun _ _ => rfl), (fun _ _ => rfl), (fun _ _ => rfl), (fun _ _ => rfl), (fun _ _ => rfl), (fun _ _ => rfl), (fun _ _ => rfl)⟩⟩
theorem zTS_grp {cF cc cN inp : Int32} {nF nN stp mst prc al made amt op fx jn lets : Nat → Int32} {mF mN mNF mNN mS mM mC mW mCst mO m1 m2 mX mG : Nat → Int32} {mA mB : Nat → Int64} {J G : Nat → Int32} {i j : Int32} (h : zTS cF cc cN inp nF nN stp mst prc al made amt op fx jn lets mF mN mNF mNN mS mM mC mW mCst mO m1 m2 mX mG mA mB) (hi : 0 ≤ i ∧ i < cN) (hj : 0 ≤ j ∧ j < cN) (hJ : ∀ x : Int32, 0 ≤ x → x < cN → J x.toNatClampNeg = if jn x.toNatClampNeg = jn j.toNatClampNeg then jn i.toNatClampNeg else jn x.toNatClampNeg) (hG : zMg cN i j mG G) : zTS cF cc cN inp nF nN stp mst prc al made amt op fx J lets mF mN mNF mNN mS mM mC mW mCst mO m1 m2 mX G mA mB ∧ zFR mF mN mNF mNN mS mM mC mW mCst mO m1 m2 mX mG mA mB mF mN mNF mNN mS mM mC mW mCst mO m1 m2 mX G mA mB := by
  obtain ⟨hF, hN, hC, hI, hfm, hnu, hgr⟩ := h
  exact ⟨⟨hF, hN, hC, hI, hfm, hnu, zGr_merge hN.2.2 hi hj hgr hJ hG⟩, ⟨rfl, rfl, (fun _ _ => rfl), (fun _ _ => rfl), (fun _ _ => rfl), (fun _ _ => rfl), (fun _ _ => rfl), (fun _ _ => rfl), rfl, (fun _ _ => rfl), (fun _ _ => rfl), (fun _ _ => rfl), (fun _ _ => rfl), hG.2, (fun _ _ => rfl), (fun _ _ => rfl)⟩⟩
/-! which words begin a STATEMENT, and when there is no more room -/
noncomputable def zBeg (o : Int32) : Prop := o = 0 ∨ o = 4 ∨ o = 5 ∨ o = 6 ∨ o = 9 ∨ o = 10 ∨ o = 11
theorem zStarts_y {o : Int32} (h : zBeg o) : fn_X5_startsStatement o = some 1 ∧ fn_X12_isBeginning o = some 1 := by
  rcases h with rfl | rfl | rfl | rfl | rfl | rfl | rfl <;> exact ⟨by decide +kernel, by decide +kernel⟩
theorem zStarts_n {o : Int32} (h : ¬ zBeg o) : fn_X5_startsStatement o = some 0 ∧ fn_X12_isBeginning o = some 0 := by
  unfold zBeg at h
  unfold fn_X5_startsStatement fn_X12_isBeginning
  grind
noncomputable def zFull (p o cF cN : Int32) : Prop := p = 40 ∨ o = 0 ∧ cF = 4 ∨ (o = 5 ∨ o = 6) ∧ cN = 14
theorem zIsFull {o cF cN : Int32} (hF : 0 ≤ cF ∧ cF ≤ 4) (hN : 0 ≤ cN ∧ cN ≤ 14) : fn_X5_isFull o cF cN = some (if o = 0 ∧ cF = 4 ∨ (o = 5 ∨ o = 6) ∧ cN = 14 then 1 else 0) := by
  unfold fn_X5_isFull zj
  dsimp only
  grind
/-! the sign behind a STATEMENT -/
set_option maxRecDepth 100000 in
noncomputable def zJ5 (n : Int32) (f own : Nat → Int32) (s_20 : Int32 × Int32 × Int32 × Int32 × Int32 × Int32 × Int32 × Int32 × Int32 × Int32 × Int32 × Int32 × Int32 × (Nat → Int32) × (Nat → Int32) × (Nat → Int32) × (Nat → Int32) × (Nat → Int32) × (Nat → Int32) × (Nat → Int32) × (Nat → Int32) × (Nat → Int32) × (Nat → Int32) × (Nat → Int32) × (Nat → Int32)) : Option (Int32 × Int32 × Int32 × Int32 × Int32 × Int32 × Int32 × Int32 × Int32 × Int32 × Int32 × Int32 × Int32 × (Nat → Int32) × (Nat → Int32) × (Nat → Int32) × (Nat → Int32) × (Nat → Int32) × (Nat → Int32) × (Nat → Int32) × (Nat → Int32) × (Nat → Int32) × (Nat → Int32) × (Nat → Int32) × (Nat → Int32)) := (if s_20.1 = 0 then (some ((0 : Int32), s_20.2.1, s_20.2.2.1, s_20.2.2.2.1, s_20.2.2.2.2.2.2.1, s_20.2.2.2.2.2.2.2.1, s_20.2.2.2.2.2.2.2.2.1, s_20.2.2.2.2.2.2.2.2.2.1, s_20.2.2.2.2.2.2.2.2.2.2.1, s_20.2.2.2.2.1, s_20.2.2.2.2.2.1, s_20.2.2.2.2.2.2.2.2.2.2.2.1, s_20.2.2.2.2.2.2.2.2.2.2.2.2.1, s_20.2.2.2.2.2.2.2.2.2.2.2.2.2.1, s_20.2.2.2.2.2.2.2.2.2.2.2.2.2.2.2.2.2.1, s_20.2.2.2.2.2.2.2.2.2.2.2.2.2.2.1, s_20.2.2.2.2.2.2.2.2.2.2.2.2.2.2.2.1, s_20.2.2.2.2.2.2.2.2.2.2.2.2.2.2.2.2.1, s_20.2.2.2.2.2.2.2.2.2.2.2.2.2.2.2.2.2.2.2.2.1, s_20.2.2.2.2.2.2.2.2.2.2.2.2.2.2.2.2.2.2.2.2.2.2.2.1, s_20.2.2.2.2.2.2.2.2.2.2.2.2.2.2.2.2.2.2.2.2.2.2.2.2, s_20.2.2.2.2.2.2.2.2.2.2.2.2.2.2.2.2.2.2.1, s_20.2.2.2.2.2.2.2.2.2.2.2.2.2.2.2.2.2.2.2.1, s_20.2.2.2.2.2.2.2.2.2.2.2.2.2.2.2.2.2.2.2.2.2.2.1, s_20.2.2.2.2.2.2.2.2.2.2.2.2.2.2.2.2.2.2.2.2.2.1)) else (zb (fn_X5_readSign 59 s_20.2.2.1 s_20.2.2.2.1 n s_20.2.2.2.2.2.2.1 s_20.2.2.2.2.2.2.2.1 s_20.2.2.2.2.2.2.2.2.1 s_20.2.2.2.2.2.2.2.2.2.1 s_20.2.2.2.2.2.2.2.2.2.2.1 f own) (fun o_22 => (if o_22.1 = 0 then (some ((0 : Int32), s_20.2.1, o_22.2.1, o_22.2.2.1, o_22.2.2.2.1, o_22.2.2.2.2.1, o_22.2.2.2.2.2.1, o_22.2.2.2.2.2.2.1, o_22.2.2.2.2.2.2.2, s_20.2.2.2.2.1, s_20.2.2.2.2.2.1, s_20.2.2.2.2.2.2.2.2.2.2.2.1, s_20.2.2.2.2.2.2.2.2.2.2.2.2.1, s_20.2.2.2.2.2.2.2.2.2.2.2.2.2.1, s_20.2.2.2.2.2.2.2.2.2.2.2.2.2.2.2.2.2.1, s_20.2.2.2.2.2.2.2.2.2.2.2.2.2.2.1, s_20.2.2.2.2.2.2.2.2.2.2.2.2.2.2.2.1, s_20.2.2.2.2.2.2.2.2.2.2.2.2.2.2.2.2.1, s_20.2.2.2.2.2.2.2.2.2.2.2.2.2.2.2.2.2.2.2.2.1, s_20.2.2.2.2.2.2.2.2.2.2.2.2.2.2.2.2.2.2.2.2.2.2.2.1, s_20.2.2.2.2.2.2.2.2.2.2.2.2.2.2.2.2.2.2.2.2.2.2.2.2, s_20.2.2.2.2.2.2.2.2.2.2.2.2.2.2.2.2.2.2.1, s_20.2.2.2.2.2.2.2.2.2.2.2.2.2.2.2.2.2.2.2.1, s_20.2.2.2.2.2.2.2.2.2.2.2.2.2.2.2.2.2.2.2.2.2.2.1, s_20.2.2.2.2.2.2.2.2.2.2.2.2.2.2.2.2.2.2.2.2.2.1)) else (some ((1 : Int32), s_20.2.1, o_22.2.1, o_22.2.2.1, o_22.2.2.2.1, o_22.2.2.2.2.1, o_22.2.2.2.2.2.1, o_22.2.2.2.2.2.2.1, o_22.2.2.2.2.2.2.2, s_20.2.2.2.2.1, s_20.2.2.2.2.2.1, s_20.2.2.2.2.2.2.2.2.2.2.2.1, s_20.2.2.2.2.2.2.2.2.2.2.2.2.1, s_20.2.2.2.2.2.2.2.2.2.2.2.2.2.1, s_20.2.2.2.2.2.2.2.2.2.2.2.2.2.2.2.2.2.1, s_20.2.2.2.2.2.2.2.2.2.2.2.2.2.2.1, s_20.2.2.2.2.2.2.2.2.2.2.2.2.2.2.2.1, s_20.2.2.2.2.2.2.2.2.2.2.2.2.2.2.2.2.1, s_20.2.2.2.2.2.2.2.2.2.2.2.2.2.2.2.2.2.2.2.2.1, s_20.2.2.2.2.2.2.2.2.2.2.2.2.2.2.2.2.2.2.2.2.2.2.2.1, s_20.2.2.2.2.2.2.2.2.2.2.2.2.2.2.2.2.2.2.2.2.2.2.2.2, s_20.2.2.2.2.2.2.2.2.2.2.2.2.2.2.2.2.2.2.1, s_20.2.2.2.2.2.2.2.2.2.2.2.2.2.2.2.2.2.2.2.1, s_20.2.2.2.2.2.2.2.2.2.2.2.2.2.2.2.2.2.2.2.2.2.2.1, s_20.2.2.2.2.2.2.2.2.2.2.2.2.2.2.2.2.2.2.2.2.2.1))))))
theorem zSemi {n a e k s v o got fk fp wa : Int32} {f g own : Nat → Int32} {cF cc cN inp : Int32} {nF nN stp mst prc al made amt op fx jn lets : Nat → Int32} (hn : n ≤ 1200) (ha : 0 ≤ a ∧ a ≤ n) (ht : zTp f g) (ho : ∀ w : Nat, w < 13 → own w = zOwT w) (T : zTok n f g a e k s v o) :
    zw (zJ5 n f own (1, got, fk, fp, cF, cc, e, k, s, v, o, cN, inp, nF, stp, mst, prc, nN, op, fx, al, lets, jn, made, amt)) (fun r => zw (fn_X12_mark 59 n a 0 wa g) (fun q => (∃ y, r = (1, got, fk, fp, y.1, y.2.1, y.2.2.1, y.2.2.2.1, y.2.2.2.2, cF, cc, cN, inp, nF, nN, stp, mst, prc, al, made, amt, op, fx, jn, lets) ∧ q = (e, 0, wa) ∧ zNext n f g e y) ∨ zStop r.1 r.2.2.1 r.2.2.2.1 q.2.1 q.2.2)) := by
  unfold zJ5
  dsimp only
  rw [if_neg (by decide)]
  refine zw_zb0 (zSignR (wa := wa) hn ha ht ho T ⟨by decide +kernel, by decide, by decide⟩) (fun r hr => ?_)
  obtain ⟨q, eq, hq⟩ := hr
  rcases hq with ⟨y, rfl, rfl, hy⟩ | hs
  · dsimp only
    rw [if_neg (by decide)]
    exact zw_some ⟨_, eq, Or.inl ⟨y, rfl, rfl, hy⟩⟩
  · rw [if_pos hs.1]
    exact zw_some ⟨_, eq, Or.inr ⟨rfl, hs.2⟩⟩
theorem zSemi_0 {n : Int32} {f own : Nat → Int32} {s_20 : Int32 × Int32 × Int32 × Int32 × Int32 × Int32 × Int32 × Int32 × Int32 × Int32 × Int32 × Int32 × Int32 × (Nat → Int32) × (Nat → Int32) × (Nat → Int32) × (Nat → Int32) × (Nat → Int32) × (Nat → Int32) × (Nat → Int32) × (Nat → Int32) × (Nat → Int32) × (Nat → Int32) × (Nat → Int32) × (Nat → Int32)} (h : s_20.1 = 0) : zw (zJ5 n f own s_20) (fun r => r.1 = 0 ∧ r.2.2.1 = s_20.2.2.1 ∧ r.2.2.2.1 = s_20.2.2.2.1) := by
  unfold zJ5
  rw [if_pos h]
  exact zw_some ⟨rfl, rfl, rfl⟩
noncomputable def zSR (n : Int32) (f g : Nat → Int32) (fk fp wa : Int32) (mF mN mNF mNN mS mM mC mW mCst mO m1 m2 mX mG : Nat → Int32) (mA mB : Nat → Int64) (r : Int32 × Int32 × Int32 × Int32 × Int32 × Int32 × Int32 × Int32 × Int32 × Int32 × Int32 × Int32 × Int32 × (Nat → Int32) × (Nat → Int32) × (Nat → Int32) × (Nat → Int32) × (Nat → Int32) × (Nat → Int32) × (Nat → Int32) × (Nat → Int32) × (Nat → Int32) × (Nat → Int32) × (Nat → Int32) × (Nat → Int32)) (q : Int64 × Int32 × Int32 × Int32 × Int32 × (Nat → Int32) × (Nat → Int32) × (Nat → Int32) × (Nat → Int32) × (Nat → Int32) × (Nat → Int32) × (Nat → Int32) × (Nat → Int32) × (Nat → Int32) × (Nat → Int32) × (Nat → Int32) × (Nat → Int32) × (Nat → Int32) × (Nat → Int32) × (Nat → Int64) × (Nat → Int64)) : Prop := (∃ g' y z b' wv C M, r = (1, g', fk, fp, y.1, y.2.1, y.2.2.1, y.2.2.2.1, y.2.2.2.2, C) ∧ q = (wv, z, b', 0, wa, M) ∧ zNext n f g z y ∧ zTS C.1 C.2.1 C.2.2.1 C.2.2.2.1 C.2.2.2.2.1 C.2.2.2.2.2.1 C.2.2.2.2.2.2.1 C.2.2.2.2.2.2.2.1 C.2.2.2.2.2.2.2.2.1 C.2.2.2.2.2.2.2.2.2.1 C.2.2.2.2.2.2.2.2.2.2.1 C.2.2.2.2.2.2.2.2.2.2.2.1 C.2.2.2.2.2.2.2.2.2.2.2.2.1 C.2.2.2.2.2.2.2.2.2.2.2.2.2.1 C.2.2.2.2.2.2.2.2.2.2.2.2.2.2.1 C.2.2.2.2.2.2.2.2.2.2.2.2.2.2.2 M.1 M.2.1 M.2.2.1 M.2.2.2.1 M.2.2.2.2.1 M.2.2.2.2.2.1 M.2.2.2.2.2.2.1 M.2.2.2.2.2.2.2.1 M.2.2.2.2.2.2.2.2.1 M.2.2.2.2.2.2.2.2.2.1 M.2.2.2.2.2.2.2.2.2.2.1 M.2.2.2.2.2.2.2.2.2.2.2.1 M.2.2.2.2.2.2.2.2.2.2.2.2.1 M.2.2.2.2.2.2.2.2.2.2.2.2.2.1 M.2.2.2.2.2.2.2.2.2.2.2.2.2.2.1 M.2.2.2.2.2.2.2.2.2.2.2.2.2.2.2 ∧ zFR mF mN mNF mNN mS mM mC mW mCst mO m1 m2 mX mG mA mB M.1 M.2.1 M.2.2.1 M.2.2.2.1 M.2.2.2.2.1 M.2.2.2.2.2.1 M.2.2.2.2.2.2.1 M.2.2.2.2.2.2.2.1 M.2.2.2.2.2.2.2.2.1 M.2.2.2.2.2.2.2.2.2.1 M.2.2.2.2.2.2.2.2.2.2.1 M.2.2.2.2.2.2.2.2.2.2.2.1 M.2.2.2.2.2.2.2.2.2.2.2.2.1 M.2.2.2.2.2.2.2.2.2.2.2.2.2.1 M.2.2.2.2.2.2.2.2.2.2.2.2.2.2.1 M.2.2.2.2.2.2.2.2.2.2.2.2.2.2.2) ∨ zStop r.1 r.2.2.1 r.2.2.2.1 q.2.2.2.1 q.2.2.2.2.1 ∧ zFR mF mN mNF mNN mS mM mC mW mCst mO m1 m2 mX mG mA mB q.2.2.2.2.2.1 q.2.2.2.2.2.2.1 q.2.2.2.2.2.2.2.1 q.2.2.2.2.2.2.2.2.1 q.2.2.2.2.2.2.2.2.2.1 q.2.2.2.2.2.2.2.2.2.2.1 q.2.2.2.2.2.2.2.2.2.2.2.1 q.2.2.2.2.2.2.2.2.2.2.2.2.1 q.2.2.2.2.2.2.2.2.2.2.2.2.2.1 q.2.2.2.2.2.2.2.2.2.2.2.2.2.2.1 q.2.2.2.2.2.2.2.2.2.2.2.2.2.2.2.1 q.2.2.2.2.2.2.2.2.2.2.2.2.2.2.2.2.1 q.2.2.2.2.2.2.2.2.2.2.2.2.2.2.2.2.2.1 q.2.2.2.2.2.2.2.2.2.2.2.2.2.2.2.2.2.2.1 q.2.2.2.2.2.2.2.2.2.2.2.2.2.2.2.2.2.2.2.1 q.2.2.2.2.2.2.2.2.2.2.2.2.2.2.2.2.2.2.2.2
-- the kinds of STATEMENT
set_option maxRecDepth 100000 in
theorem zSt_fmt {n a e k s v o got fk fp bg wa : Int32} {wv0 : Int64} {f g own tab : Nat → Int32} {cF cc cN inp : Int32} {nF nN stp mst prc al made amt op fx jn lets : Nat → Int32} {mF mN mNF mNN mS mM mC mW mCst mO m1 m2 mX mG : Nat → Int32} {mA mB : Nat → Int64} (hn : n ≤ 1200) (ha : 0 ≤ a ∧ a ≤ n) (ht : zTp f g) (ho : ∀ w : Nat, w < 13 → own w = zOwT w) (hT : (∀ k : Nat, k < 71 → tab k = zTab k)) (T : zTok n f g a e k s v o) (h : zTS cF cc cN inp nF nN stp mst prc al made amt op fx jn lets mF mN mNF mNN mS mM mC mW mCst mO m1 m2 mX mG mA mB) (hc : cF < 4) :
    zw (zb (fn_X5_readFormat got fk fp n e k s v o cF nF cN nN f own stp mst prc) (fun o_1 => (zJ5 n f own (o_1.1, o_1.2.1, o_1.2.2.1, o_1.2.2.2.1, o_1.2.2.2.2.2.2.2.2.2.1, cc, o_1.2.2.2.2.1, o_1.2.2.2.2.2.1, o_1.2.2.2.2.2.2.1, o_1.2.2.2.2.2.2.2.1, o_1.2.2.2.2.2.2.2.2.1, cN, inp, o_1.2.2.2.2.2.2.2.2.2.2.1, o_1.2.2.2.2.2.2.2.2.2.2.2.1, o_1.2.2.2.2.2.2.2.2.2.2.2.2.1, o_1.2.2.2.2.2.2.2.2.2.2.2.2.2, nN, op, fx, al, lets, jn, made, amt)))) (fun r => zw (zb (fn_X12_readsFormat n a bg 0 wa 1 g tab mF mNF mN mNN mS mM mC) (fun o_1 => (zb (fn_X12_mark 59 n o_1.1 o_1.2.2.1 o_1.2.2.2.1 g) (fun o_2 => (some (wv0, o_2.1, o_1.2.1, o_2.2.1, o_2.2.2, o_1.2.2.2.2.1, mN, o_1.2.2.2.2.2.1, mNN, o_1.2.2.2.2.2.2.1, o_1.2.2.2.2.2.2.2.1, o_1.2.2.2.2.2.2.2.2, mW, mCst, mO, m1, m2, mX, mG, mA, mB)))))) (fun q => zSR n f g fk fp wa mF mN mNF mNN mS mM mC mW mCst mO m1 m2 mX mG mA mB r q)) := by
  have h0 := h
  obtain ⟨hF, hN, hC, hI, hfm, hnu, hgr⟩ := h
  obtain ⟨r1, hr1, q1, hq1, h1⟩ := zFormat (got := got) (fk := fk) (fp := fp) (bg := bg) (wa := wa) (stp := stp) (mst := mst) (prc := prc) (mS := mS) (mM := mM) (mC := mC) hn ha ht ho hT T ⟨hF.1, hF.2.1, hc⟩ hN (zNR_F hfm) (zNR_N hnu)
  rw [hr1, hq1]
  simp only [zb_some]
  rcases h1 with ⟨g', e', k', s', v', o', z, b', c, m, x1, x2, x3, rfl, rfl, hnm, h1, h2, h3, ha1, T1⟩ | ⟨hs, hrow⟩
  · dsimp only at ha1 T1 ⊢
    obtain ⟨u1, u2⟩ := zTS_fmt h0 hc hnm h1 h2 h3
    obtain ⟨r2, hr2, q2, hq2, h2⟩ := zSemi (got := g') (fk := fk) (fp := fp) (wa := wa) hn ha1 ht ho T1
    rw [hr2, hq2]
    simp only [zb_some]
    rcases h2 with ⟨y', rfl, rfl, hy⟩ | hs
    · exact zw_some (zw_some (Or.inl ⟨_, y', _, _, _, _, _, rfl, rfl, hy, u1, u2⟩))
    · exact zw_some (zw_some (Or.inr ⟨hs, u2⟩))
  · obtain ⟨r2, hr2, h2, h3, h4⟩ := zSemi_0 (n := n) (f := f) (own := own) (s_20 := (r1.1, r1.2.1, r1.2.2.1, r1.2.2.2.1, r1.2.2.2.2.2.2.2.2.2.1, cc, r1.2.2.2.2.1, r1.2.2.2.2.2.1, r1.2.2.2.2.2.2.1, r1.2.2.2.2.2.2.2.1, r1.2.2.2.2.2.2.2.2.1, cN, inp, r1.2.2.2.2.2.2.2.2.2.2.1, r1.2.2.2.2.2.2.2.2.2.2.2.1, r1.2.2.2.2.2.2.2.2.2.2.2.2.1, r1.2.2.2.2.2.2.2.2.2.2.2.2.2, nN, op, fx, al, lets, jn, made, amt)) hs.1
    rw [hr2]
    rw [zMark_n hs.2.1]
    simp only [zb_some]
    refine zw_some (zw_some (Or.inr ⟨⟨h2, hs.2.1, h3.trans hs.2.2.1, h4.trans hs.2.2.2⟩, ?_⟩))
    have hrow := hrow
    have e0 := congrArg (fun t => t.1) hrow
    have e1 := congrArg (fun t => t.2.1) hrow
    have e2 := congrArg (fun t => t.2.2.1) hrow
    have e3 := congrArg (fun t => t.2.2.2.1) hrow
    have e4 := congrArg (fun t => t.2.2.2.2) hrow
    dsimp only at e0 e1 e2 e3 e4 ⊢
    rw [e0, e1, e2, e3, e4]
    exact zFR_rf
set_option maxRecDepth 100000 in
theorem zSt_cst {n a e k s v o got fk fp bg wa : Int32} {wv0 : Int64} {f g own tab : Nat → Int32} {cF cc cN inp : Int32} {nF nN stp mst prc al made amt op fx jn lets : Nat → Int32} {mF mN mNF mNN mS mM mC mW mCst mO m1 m2 mX mG : Nat → Int32} {mA mB : Nat → Int64} (hn : n ≤ 1200) (ha : 0 ≤ a ∧ a ≤ n) (ht : zTp f g) (ho : ∀ w : Nat, w < 13 → own w = zOwT w) (hT : (∀ k : Nat, k < 71 → tab k = zTab k)) (T : zTok n f g a e k s v o) (h : zTS cF cc cN inp nF nN stp mst prc al made amt op fx jn lets mF mN mNF mNN mS mM mC mW mCst mO m1 m2 mX mG mA mB) :
    zw (zb (fn_X5_readCast got fk fp n e k s v o f own cc) (fun o_1 => (zJ5 n f own (o_1.1, o_1.2.1, o_1.2.2.1, o_1.2.2.2.1, cF, o_1.2.2.2.2.2.2.2.2.2, o_1.2.2.2.2.1, o_1.2.2.2.2.2.1, o_1.2.2.2.2.2.2.1, o_1.2.2.2.2.2.2.2.1, o_1.2.2.2.2.2.2.2.2.1, cN, inp, nF, stp, mst, prc, nN, op, fx, al, lets, jn, made, amt)))) (fun r => zw (zb (fn_X12_number (0 : Int64) (999 : Int64) n a bg 0 wa g) (fun o_1 => (zb (fn_X12_goesWell o_1.2.2.2.1) (fun o_67 => (if o_67 = 0 then (zg 1 2 (zb (fn_X12_mark 59 n o_1.2.1 o_1.2.2.2.1 o_1.2.2.2.2 g) (fun o_2 => (some (wv0, o_2.1, o_1.2.2.1, o_2.2.1, o_2.2.2, mF, mN, mNF, mNN, mS, mM, mC, mW, (upd mCst (1 : Int32).toNatClampNeg (mCst (1 : Int32).toNatClampNeg)), mO, m1, m2, mX, mG, mA, mB))))) else (zg 1 2 (zb (fn_X12_mark 59 n o_1.2.1 o_1.2.2.2.1 o_1.2.2.2.2 g) (fun o_2 => (some (wv0, o_2.1, o_1.2.2.1, o_2.2.1, o_2.2.2, mF, mN, mNF, mNN, mS, mM, mC, mW, (upd mCst (1 : Int32).toNatClampNeg o_1.1.toInt32), mO, m1, m2, mX, mG, mA, mB)))))))))) (fun q => zSR n f g fk fp wa mF mN mNF mNN mS mM mC mW mCst mO m1 m2 mX mG mA mB r q)) := by
  have h0 := h
  obtain ⟨hF, hN, hC, hI, hfm, hnu, hgr⟩ := h
  unfold fn_X5_readCast
  obtain ⟨r1, hr1, q1, hq1, h1⟩ := zNumR (lo := 0) (hi := 999) (got := got) (fk := fk) (fp := fp) (bg := bg) (wa := wa) (lo64 := 0) (hi64 := 999) (by decide +kernel) (by decide +kernel) hn ha ht ho T
  rw [hr1, hq1]
  simp only [zb_some]
  have hg2 : ∀ {ρ : Type} (e : Option ρ), zg 1 2 e = e := fun e => zg_in 2 (by decide +kernel) ⟨by decide, by decide⟩ e
  rcases h1 with ⟨y, rfl, rfl, l1, l2, ha1, T1⟩ | hs
  · dsimp only at ha1 T1 ⊢
    rw [if_neg (by decide), zGw_0]
    simp only [zb_some]
    rw [if_neg (by decide), hg2]
    obtain ⟨u1, u2⟩ := zTS_cast h0 ⟨l1, l2⟩
    obtain ⟨r2, hr2, q2, hq2, h2⟩ := zSemi (got := v) (fk := fk) (fp := fp) (wa := wa) hn ha1 ht ho T1
    rw [hr2, hq2]
    simp only [zb_some]
    rw [show v.toInt64.toInt32 = v from z64_32 v, zn01.2]
    rcases h2 with ⟨y', rfl, rfl, hy⟩ | hs
    · exact zw_some (zw_some (Or.inl ⟨_, y', _, _, _, _, _, rfl, rfl, hy, u1, u2⟩))
    · exact zw_some (zw_some (Or.inr ⟨hs, u2⟩))
  · rw [if_pos hs.1, zGw_n hs.2.1]
    simp only [zb_some]
    rw [if_pos trivial, hg2, zMark_n hs.2.1]
    simp only [zb_some]
    obtain ⟨r2, hr2, h2, h3, h4⟩ := zSemi_0 (n := n) (f := f) (own := own) (s_20 := (0, r1.2.1, r1.2.2.1, r1.2.2.2.1, cF, cc, r1.2.2.2.2.1, r1.2.2.2.2.2.1, r1.2.2.2.2.2.2.1, r1.2.2.2.2.2.2.2.1, r1.2.2.2.2.2.2.2.2, cN, inp, nF, stp, mst, prc, nN, op, fx, al, lets, jn, made, amt)) rfl
    rw [hr2]
    refine zw_some (zw_some (Or.inr ⟨⟨h2, hs.2.1, h3.trans hs.2.2.1, h4.trans hs.2.2.2⟩, ?_⟩))
    rw [zn01.2]
    have eu : upd mCst 1 (mCst 1) = mCst := by
      funext i
      show (if i = 1 then mCst 1 else mCst i) = mCst i
      split
      · rename_i q; rw [q]
      · rfl
    dsimp only
    rw [eu]
    exact zFR_rf
set_option maxRecDepth 100000 in
theorem zSt_box {n a e k s v o got fk fp bg wa : Int32} {wv0 : Int64} {f g own tab : Nat → Int32} {cF cc cN inp : Int32} {nF nN stp mst prc al made amt op fx jn lets : Nat → Int32} {mF mN mNF mNN mS mM mC mW mCst mO m1 m2 mX mG : Nat → Int32} {mA mB : Nat → Int64} (hn : n ≤ 1200) (ha : 0 ≤ a ∧ a ≤ n) (ht : zTp f g) (ho : ∀ w : Nat, w < 13 → own w = zOwT w) (hT : (∀ k : Nat, k < 71 → tab k = zTab k)) (T : zTok n f g a e k s v o) (h : zTS cF cc cN inp nF nN stp mst prc al made amt op fx jn lets mF mN mNF mNN mS mM mC mW mCst mO m1 m2 mX mG mA mB) (hc : cN < 14) :
    zw (zb (fn_X5_readBox got fk fp n e k s v o cF nF cN inp nN f own made amt op fx al jn lets) (fun o_1 => (zJ5 n f own (o_1.1, o_1.2.1, o_1.2.2.1, o_1.2.2.2.1, cF, cc, o_1.2.2.2.2.1, o_1.2.2.2.2.2.1, o_1.2.2.2.2.2.2.1, o_1.2.2.2.2.2.2.2.1, o_1.2.2.2.2.2.2.2.2.1, o_1.2.2.2.2.2.2.2.2.2.1, o_1.2.2.2.2.2.2.2.2.2.2.1, nF, stp, mst, prc, o_1.2.2.2.2.2.2.2.2.2.2.2.1, o_1.2.2.2.2.2.2.2.2.2.2.2.2.2.2.1, o_1.2.2.2.2.2.2.2.2.2.2.2.2.2.2.2.1, o_1.2.2.2.2.2.2.2.2.2.2.2.2.2.2.2.2.1, o_1.2.2.2.2.2.2.2.2.2.2.2.2.2.2.2.2.2.2, o_1.2.2.2.2.2.2.2.2.2.2.2.2.2.2.2.2.2.1, o_1.2.2.2.2.2.2.2.2.2.2.2.2.1, o_1.2.2.2.2.2.2.2.2.2.2.2.2.2.1)))) (fun r => zw (zb (fn_X12_readsInput n a bg 0 wa 1 g tab mF mNF mN mNN mO m1 m2 mX mW mG mA mB) (fun o_1 => (zb (fn_X12_mark 59 n o_1.1 o_1.2.2.1 o_1.2.2.2.1 g) (fun o_2 => (some (wv0, o_2.1, o_1.2.1, o_2.2.1, o_2.2.2, mF, o_1.2.2.2.2.1, mNF, o_1.2.2.2.2.2.1, mS, mM, mC, o_1.2.2.2.2.2.2.2.2.2.2.1, mCst, o_1.2.2.2.2.2.2.1, o_1.2.2.2.2.2.2.2.1, o_1.2.2.2.2.2.2.2.2.1, o_1.2.2.2.2.2.2.2.2.2.1, o_1.2.2.2.2.2.2.2.2.2.2.2.1, o_1.2.2.2.2.2.2.2.2.2.2.2.2.1, o_1.2.2.2.2.2.2.2.2.2.2.2.2.2)))))) (fun q => zSR n f g fk fp wa mF mN mNF mNN mS mM mC mW mCst mO m1 m2 mX mG mA mB r q)) := by
  have h0 := h
  obtain ⟨hF, hN, hC, hI, hfm, hnu, hgr⟩ := h
  obtain ⟨r1, hr1, q1, hq1, h1⟩ := zBox (got := got) (fk := fk) (fp := fp) (bg := bg) (wa := wa) (inp := inp) (made := made) (amt := amt) (op := op) (fx := fx) (al := al) (jn := jn) (lets := lets) (mO := mO) (m1 := m1) (m2 := m2) (mX := mX) (mW := mW) (mG := mG) (mA := mA) (mB := mB) hn ha ht ho hT T hF ⟨hN.1, hN.2.1, hc⟩ (zNR_F hfm) (zNR_N hnu)
  rw [hr1, hq1]
  simp only [zb_some]
  rcases h1 with ⟨g', e', k', s', v', o', z, b', c, m, x, y, rfl, rfl, hnm, l1, l2, l3, ha1, T1⟩ | ⟨hs, hrow⟩
  · dsimp only at ha1 T1 ⊢
    obtain ⟨u1, u2⟩ := zTS_box h0 hc hnm l1 l2 l3
    obtain ⟨r2, hr2, q2, hq2, h2⟩ := zSemi (got := g') (fk := fk) (fp := fp) (wa := wa) hn ha1 ht ho T1
    rw [hr2, hq2]
    simp only [zb_some]
    rcases h2 with ⟨y', rfl, rfl, hy⟩ | hs
    · exact zw_some (zw_some (Or.inl ⟨_, y', _, _, _, _, _, rfl, rfl, hy, u1, u2⟩))
    · exact zw_some (zw_some (Or.inr ⟨hs, u2⟩))
  · obtain ⟨r2, hr2, h2, h3, h4⟩ := zSemi_0 (n := n) (f := f) (own := own) (s_20 := (r1.1, r1.2.1, r1.2.2.1, r1.2.2.2.1, cF, cc, r1.2.2.2.2.1, r1.2.2.2.2.2.1, r1.2.2.2.2.2.2.1, r1.2.2.2.2.2.2.2.1, r1.2.2.2.2.2.2.2.2.1, r1.2.2.2.2.2.2.2.2.2.1, r1.2.2.2.2.2.2.2.2.2.2.1, nF, stp, mst, prc, r1.2.2.2.2.2.2.2.2.2.2.2.1, r1.2.2.2.2.2.2.2.2.2.2.2.2.2.2.1, r1.2.2.2.2.2.2.2.2.2.2.2.2.2.2.2.1, r1.2.2.2.2.2.2.2.2.2.2.2.2.2.2.2.2.1, r1.2.2.2.2.2.2.2.2.2.2.2.2.2.2.2.2.2.2, r1.2.2.2.2.2.2.2.2.2.2.2.2.2.2.2.2.2.1, r1.2.2.2.2.2.2.2.2.2.2.2.2.1, r1.2.2.2.2.2.2.2.2.2.2.2.2.2.1)) hs.1
    rw [hr2]
    rw [zMark_n hs.2.1]
    simp only [zb_some]
    refine zw_some (zw_some (Or.inr ⟨⟨h2, hs.2.1, h3.trans hs.2.2.1, h4.trans hs.2.2.2⟩, ?_⟩))
    have hrow := hrow
    have e0 := congrArg (fun t => t.1) hrow
    have e1 := congrArg (fun t => t.2.1) hrow
    have e2 := congrArg (fun t => t.2.2.1) hrow
    have e3 := congrArg (fun t => t.2.2.2.1) hrow
    have e4 := congrArg (fun t => t.2.2.2.2.1) hrow
    have e5 := congrArg (fun t => t.2.2.2.2.2.1) hrow
    have e6 := congrArg (fun t => t.2.2.2.2.2.2.1) hrow
    have e7 := congrArg (fun t => t.2.2.2.2.2.2.2.1) hrow
    have e8 := congrArg (fun t => t.2.2.2.2.2.2.2.2.1) hrow
    have e9 := congrArg (fun t => t.2.2.2.2.2.2.2.2.2) hrow
    dsimp only at e0 e1 e2 e3 e4 e5 e6 e7 e8 e9 ⊢
    rw [e0, e1, e2, e3, e4, e5, e6, e7, e8, e9]
    exact zFR_rf
set_option maxRecDepth 100000 in
theorem zSt_let {n a e k s v o got fk fp bg wa : Int32} {wv0 : Int64} {f g own tab : Nat → Int32} {cF cc cN inp : Int32} {nF nN stp mst prc al made amt op fx jn lets : Nat → Int32} {mF mN mNF mNN mS mM mC mW mCst mO m1 m2 mX mG : Nat → Int32} {mA mB : Nat → Int64} (hn : n ≤ 1200) (ha : 0 ≤ a ∧ a ≤ n) (ht : zTp f g) (ho : ∀ w : Nat, w < 13 → own w = zOwT w) (hT : (∀ k : Nat, k < 71 → tab k = zTab k)) (T : zTok n f g a e k s v o) (h : zTS cF cc cN inp nF nN stp mst prc al made amt op fx jn lets mF mN mNF mNN mS mM mC mW mCst mO m1 m2 mX mG mA mB) (hc : cN < 14) :
    zw (zb (fn_X5_readLet got fk fp n e k s v o cF nF cN inp nN f own made amt op fx al jn lets) (fun o_1 => (zJ5 n f own (o_1.1, o_1.2.1, o_1.2.2.1, o_1.2.2.2.1, cF, cc, o_1.2.2.2.2.1, o_1.2.2.2.2.2.1, o_1.2.2.2.2.2.2.1, o_1.2.2.2.2.2.2.2.1, o_1.2.2.2.2.2.2.2.2.1, o_1.2.2.2.2.2.2.2.2.2.1, o_1.2.2.2.2.2.2.2.2.2.2.1, nF, stp, mst, prc, o_1.2.2.2.2.2.2.2.2.2.2.2.1, o_1.2.2.2.2.2.2.2.2.2.2.2.2.2.2.1, o_1.2.2.2.2.2.2.2.2.2.2.2.2.2.2.2.1, o_1.2.2.2.2.2.2.2.2.2.2.2.2.2.2.2.2.1, o_1.2.2.2.2.2.2.2.2.2.2.2.2.2.2.2.2.2.2, o_1.2.2.2.2.2.2.2.2.2.2.2.2.2.2.2.2.2.1, o_1.2.2.2.2.2.2.2.2.2.2.2.2.1, o_1.2.2.2.2.2.2.2.2.2.2.2.2.2.1)))) (fun r => zw (zb (fn_X12_readsLet n a bg 0 wa 1 g tab mF mNF mN mNN mO m1 m2 mX mW mG mA mB) (fun o_1 => (zb (fn_X12_mark 59 n o_1.2.1 o_1.2.2.2.1 o_1.2.2.2.2.1 g) (fun o_2 => (some (o_1.1, o_2.1, o_1.2.2.1, o_2.2.1, o_2.2.2, mF, o_1.2.2.2.2.2.1, mNF, o_1.2.2.2.2.2.2.1, mS, mM, mC, o_1.2.2.2.2.2.2.2.2.2.2.2.1, mCst, o_1.2.2.2.2.2.2.2.1, o_1.2.2.2.2.2.2.2.2.1, o_1.2.2.2.2.2.2.2.2.2.1, o_1.2.2.2.2.2.2.2.2.2.2.1, o_1.2.2.2.2.2.2.2.2.2.2.2.2.1, o_1.2.2.2.2.2.2.2.2.2.2.2.2.2.1, o_1.2.2.2.2.2.2.2.2.2.2.2.2.2.2)))))) (fun q => zSR n f g fk fp wa mF mN mNF mNN mS mM mC mW mCst mO m1 m2 mX mG mA mB r q)) := by
  have h0 := h
  obtain ⟨hF, hN, hC, hI, hfm, hnu, hgr⟩ := h
  obtain ⟨r1, hr1, q1, hq1, h1⟩ := zLetS (got := got) (fk := fk) (fp := fp) (bg := bg) (wa := wa) (inp := inp) (made := made) (amt := amt) (op := op) (fx := fx) (al := al) (jn := jn) (lets := lets) (mO := mO) (m1 := m1) (m2 := m2) (mX := mX) (mW := mW) (mG := mG) (mA := mA) (mB := mB) hn ha ht ho hT T hF ⟨hN.1, hN.2.1, hc⟩ (zNR_F hfm) (zNR_N hnu)
  rw [hr1, hq1]
  simp only [zb_some]
  rcases h1 with ⟨g', e', k', s', v', o', z, b', c, m, w, p1, x1, p2, x2, rfl, eq1, hnm, hw, hp1, hp2, hx1, hx2, ha1, T1⟩ | ⟨hs, hrow⟩
  · obtain ⟨wv1, q1⟩ := q1
    dsimp only at eq1
    subst eq1
    dsimp only at ha1 T1 ⊢
    obtain ⟨u1, u2⟩ := zTS_let h0 hc hnm hw hp1 hp2 hx1 hx2
    obtain ⟨r2, hr2, q2, hq2, h2⟩ := zSemi (got := g') (fk := fk) (fp := fp) (wa := wa) hn ha1 ht ho T1
    rw [hr2, hq2]
    simp only [zb_some]
    rcases h2 with ⟨y', rfl, rfl, hy⟩ | hs
    · exact zw_some (zw_some (Or.inl ⟨_, y', _, _, _, _, _, rfl, rfl, hy, u1, u2⟩))
    · exact zw_some (zw_some (Or.inr ⟨hs, u2⟩))
  · obtain ⟨r2, hr2, h2, h3, h4⟩ := zSemi_0 (n := n) (f := f) (own := own) (s_20 := (r1.1, r1.2.1, r1.2.2.1, r1.2.2.2.1, cF, cc, r1.2.2.2.2.1, r1.2.2.2.2.2.1, r1.2.2.2.2.2.2.1, r1.2.2.2.2.2.2.2.1, r1.2.2.2.2.2.2.2.2.1, r1.2.2.2.2.2.2.2.2.2.1, r1.2.2.2.2.2.2.2.2.2.2.1, nF, stp, mst, prc, r1.2.2.2.2.2.2.2.2.2.2.2.1, r1.2.2.2.2.2.2.2.2.2.2.2.2.2.2.1, r1.2.2.2.2.2.2.2.2.2.2.2.2.2.2.2.1, r1.2.2.2.2.2.2.2.2.2.2.2.2.2.2.2.2.1, r1.2.2.2.2.2.2.2.2.2.2.2.2.2.2.2.2.2.2, r1.2.2.2.2.2.2.2.2.2.2.2.2.2.2.2.2.2.1, r1.2.2.2.2.2.2.2.2.2.2.2.2.1, r1.2.2.2.2.2.2.2.2.2.2.2.2.2.1)) hs.1
    rw [hr2]
    rw [zMark_n hs.2.1]
    simp only [zb_some]
    refine zw_some (zw_some (Or.inr ⟨⟨h2, hs.2.1, h3.trans hs.2.2.1, h4.trans hs.2.2.2⟩, ?_⟩))
    have hrow := hrow
    have e0 := congrArg (fun t => t.1) hrow
    have e1 := congrArg (fun t => t.2.1) hrow
    have e2 := congrArg (fun t => t.2.2.1) hrow
    have e3 := congrArg (fun t => t.2.2.2.1) hrow
    have e4 := congrArg (fun t => t.2.2.2.2.1) hrow
    have e5 := congrArg (fun t => t.2.2.2.2.2.1) hrow
    have e6 := congrArg (fun t => t.2.2.2.2.2.2.1) hrow
    have e7 := congrArg (fun t => t.2.2.2.2.2.2.2.1) hrow
    have e8 := congrArg (fun t => t.2.2.2.2.2.2.2.2.1) hrow
    have e9 := congrArg (fun t => t.2.2.2.2.2.2.2.2.2) hrow
    dsimp only at e0 e1 e2 e3 e4 e5 e6 e7 e8 e9 ⊢
    rw [e0, e1, e2, e3, e4, e5, e6, e7, e8, e9]
    exact zFR_rf
set_option maxRecDepth 100000 in
theorem zSt_fix {n a e k s v o got fk fp bg wa : Int32} {wv0 : Int64} {f g own tab : Nat → Int32} {cF cc cN inp : Int32} {nF nN stp mst prc al made amt op fx jn lets : Nat → Int32} {mF mN mNF mNN mS mM mC mW mCst mO m1 m2 mX mG : Nat → Int32} {mA mB : Nat → Int64} (hn : n ≤ 1200) (ha : 0 ≤ a ∧ a ≤ n) (ht : zTp f g) (ho : ∀ w : Nat, w < 13 → own w = zOwT w) (hT : (∀ k : Nat, k < 71 → tab k = zTab k)) (T : zTok n f g a e k s v o) (h : zTS cF cc cN inp nF nN stp mst prc al made amt op fx jn lets mF mN mNF mNN mS mM mC mW mCst mO m1 m2 mX mG mA mB) :
    zw (zb (fn_X5_readFixed got fk fp cF n e k s v o cN nN f own nF fx) (fun o_1 => (zJ5 n f own (o_1.1, o_1.2.1, o_1.2.2.1, o_1.2.2.2.1, cF, cc, o_1.2.2.2.2.1, o_1.2.2.2.2.2.1, o_1.2.2.2.2.2.2.1, o_1.2.2.2.2.2.2.2.1, o_1.2.2.2.2.2.2.2.2.1, cN, inp, nF, stp, mst, prc, nN, op, o_1.2.2.2.2.2.2.2.2.2, al, lets, jn, made, amt)))) (fun r => zw (zb (fn_X12_readsFixed n a bg 0 wa 1 g tab mN mNN mF mNF mX) (fun o_1 => (zb (fn_X12_mark 59 n o_1.1 o_1.2.2.1 o_1.2.2.2.1 g) (fun o_2 => (some (wv0, o_2.1, o_1.2.1, o_2.2.1, o_2.2.2, mF, mN, mNF, mNN, mS, mM, mC, mW, mCst, mO, m1, m2, o_1.2.2.2.2, mG, mA, mB)))))) (fun q => zSR n f g fk fp wa mF mN mNF mNN mS mM mC mW mCst mO m1 m2 mX mG mA mB r q)) := by
  have h0 := h
  obtain ⟨hF, hN, hC, hI, hfm, hnu, hgr⟩ := h
  obtain ⟨r1, hr1, q1, hq1, h1⟩ := zFixed (got := got) (fk := fk) (fp := fp) (bg := bg) (wa := wa) (fx := fx) (mX := mX) hn ha ht ho hT T hF hN (zNR_F hfm) (zNR_N hnu)
  rw [hr1, hq1]
  simp only [zb_some]
  rcases h1 with ⟨g', e', k', s', v', o', z, b', i, x, rfl, rfl, hi, hx, ha1, T1⟩ | ⟨hs, hrow⟩
  · dsimp only at ha1 T1 ⊢
    obtain ⟨u1, u2⟩ := zTS_fix h0 hi hx
    obtain ⟨r2, hr2, q2, hq2, h2⟩ := zSemi (got := g') (fk := fk) (fp := fp) (wa := wa) hn ha1 ht ho T1
    rw [hr2, hq2]
    simp only [zb_some]
    rcases h2 with ⟨y', rfl, rfl, hy⟩ | hs
    · exact zw_some (zw_some (Or.inl ⟨_, y', _, _, _, _, _, rfl, rfl, hy, u1, u2⟩))
    · exact zw_some (zw_some (Or.inr ⟨hs, u2⟩))
  · obtain ⟨r2, hr2, h2, h3, h4⟩ := zSemi_0 (n := n) (f := f) (own := own) (s_20 := (r1.1, r1.2.1, r1.2.2.1, r1.2.2.2.1, cF, cc, r1.2.2.2.2.1, r1.2.2.2.2.2.1, r1.2.2.2.2.2.2.1, r1.2.2.2.2.2.2.2.1, r1.2.2.2.2.2.2.2.2.1, cN, inp, nF, stp, mst, prc, nN, op, r1.2.2.2.2.2.2.2.2.2, al, lets, jn, made, amt)) hs.1
    rw [hr2]
    rw [zMark_n hs.2.1]
    simp only [zb_some]
    refine zw_some (zw_some (Or.inr ⟨⟨h2, hs.2.1, h3.trans hs.2.2.1, h4.trans hs.2.2.2⟩, ?_⟩))
    dsimp only
    rw [hrow]
    exact zFR_rf
set_option maxRecDepth 100000 in
theorem zSt_grp {n a e k s v o got fk fp bg wa : Int32} {wv0 : Int64} {f g own tab : Nat → Int32} {cF cc cN inp : Int32} {nF nN stp mst prc al made amt op fx jn lets : Nat → Int32} {mF mN mNF mNN mS mM mC mW mCst mO m1 m2 mX mG : Nat → Int32} {mA mB : Nat → Int64} (hn : n ≤ 1200) (ha : 0 ≤ a ∧ a ≤ n) (ht : zTp f g) (ho : ∀ w : Nat, w < 13 → own w = zOwT w) (hT : (∀ k : Nat, k < 71 → tab k = zTab k)) (T : zTok n f g a e k s v o) (h : zTS cF cc cN inp nF nN stp mst prc al made amt op fx jn lets mF mN mNF mNN mS mM mC mW mCst mO m1 m2 mX mG mA mB) :
    zw (zb (fn_X5_readGroup got fk fp n e k s v o cN nN f own jn) (fun o_1 => (zJ5 n f own (o_1.1, o_1.2.1, o_1.2.2.1, o_1.2.2.2.1, cF, cc, o_1.2.2.2.2.1, o_1.2.2.2.2.2.1, o_1.2.2.2.2.2.2.1, o_1.2.2.2.2.2.2.2.1, o_1.2.2.2.2.2.2.2.2.1, cN, inp, nF, stp, mst, prc, nN, op, fx, al, lets, o_1.2.2.2.2.2.2.2.2.2, made, amt)))) (fun r => zw (zb (fn_X12_readsGroup n a bg 0 wa 1 g tab mN mNN mG) (fun o_1 => (zb (fn_X12_mark 59 n o_1.1 o_1.2.2.1 o_1.2.2.2.1 g) (fun o_2 => (some (wv0, o_2.1, o_1.2.1, o_2.2.1, o_2.2.2, mF, mN, mNF, mNN, mS, mM, mC, mW, mCst, mO, m1, m2, mX, o_1.2.2.2.2, mA, mB)))))) (fun q => zSR n f g fk fp wa mF mN mNF mNN mS mM mC mW mCst mO m1 m2 mX mG mA mB r q)) := by
  have h0 := h
  obtain ⟨hF, hN, hC, hI, hfm, hnu, hgr⟩ := h
  obtain ⟨r1, hr1, q1, hq1, h1⟩ := zGroupS (got := got) (fk := fk) (fp := fp) (bg := bg) (wa := wa) (jn := jn) (mG := mG) hn ha ht ho hT T hN (zNR_N hnu)
  rw [hr1, hq1]
  simp only [zb_some]
  rcases h1 with ⟨g', e', k', s', v', o', J, z, b', G, i, j, rfl, rfl, hi, hj, hij, hJ, hG, ha1, T1⟩ | ⟨hs, hrow⟩
  · dsimp only at ha1 T1 ⊢
    obtain ⟨u1, u2⟩ := zTS_grp h0 hi hj hJ hG
    obtain ⟨r2, hr2, q2, hq2, h2⟩ := zSemi (got := g') (fk := fk) (fp := fp) (wa := wa) hn ha1 ht ho T1
    rw [hr2, hq2]
    simp only [zb_some]
    rcases h2 with ⟨y', rfl, rfl, hy⟩ | hs
    · exact zw_some (zw_some (Or.inl ⟨_, y', _, _, _, _, _, rfl, rfl, hy, u1, u2⟩))
    · exact zw_some (zw_some (Or.inr ⟨hs, u2⟩))
  · obtain ⟨r2, hr2, h2, h3, h4⟩ := zSemi_0 (n := n) (f := f) (own := own) (s_20 := (r1.1, r1.2.1, r1.2.2.1, r1.2.2.2.1, cF, cc, r1.2.2.2.2.1, r1.2.2.2.2.2.1, r1.2.2.2.2.2.2.1, r1.2.2.2.2.2.2.2.1, r1.2.2.2.2.2.2.2.2.1, cN, inp, nF, stp, mst, prc, nN, op, fx, al, lets, r1.2.2.2.2.2.2.2.2.2, made, amt)) hs.1
    rw [hr2]
    rw [zMark_n hs.2.1]
    simp only [zb_some]
    refine zw_some (zw_some (Or.inr ⟨⟨h2, hs.2.1, h3.trans hs.2.2.1, h4.trans hs.2.2.2⟩, ?_⟩))
    dsimp only
    rw [hrow]
    exact zFR_rf
set_option maxRecDepth 100000 in
theorem zSt_alw {n a e k s v o got fk fp bg wa : Int32} {wv0 : Int64} {f g own tab : Nat → Int32} {cF cc cN inp : Int32} {nF nN stp mst prc al made amt op fx jn lets : Nat → Int32} {mF mN mNF mNN mS mM mC mW mCst mO m1 m2 mX mG : Nat → Int32} {mA mB : Nat → Int64} (hn : n ≤ 1200) (ha : 0 ≤ a ∧ a ≤ n) (ht : zTp f g) (ho : ∀ w : Nat, w < 13 → own w = zOwT w) (hT : (∀ k : Nat, k < 71 → tab k = zTab k)) (T : zTok n f g a e k s v o) (h : zTS cF cc cN inp nF nN stp mst prc al made amt op fx jn lets mF mN mNF mNN mS mM mC mW mCst mO m1 m2 mX mG mA mB) :
    zw (zb (fn_X5_readAnswer got fk fp n e k s v o cN nN f own al) (fun o_1 => (zJ5 n f own (o_1.1, o_1.2.1, o_1.2.2.1, o_1.2.2.2.1, cF, cc, o_1.2.2.2.2.1, o_1.2.2.2.2.2.1, o_1.2.2.2.2.2.2.1, o_1.2.2.2.2.2.2.2.1, o_1.2.2.2.2.2.2.2.2.1, cN, inp, nF, stp, mst, prc, nN, op, fx, o_1.2.2.2.2.2.2.2.2.2, lets, jn, made, amt)))) (fun r => zw (zb (fn_X12_readsAnswer n a bg 0 wa 1 g tab mN mNN mW) (fun o_1 => (zb (fn_X12_mark 59 n o_1.1 o_1.2.2.1 o_1.2.2.2.1 g) (fun o_2 => (some (wv0, o_2.1, o_1.2.1, o_2.2.1, o_2.2.2, mF, mN, mNF, mNN, mS, mM, mC, o_1.2.2.2.2, mCst, mO, m1, m2, mX, mG, mA, mB)))))) (fun q => zSR n f g fk fp wa mF mN mNF mNN mS mM mC mW mCst mO m1 m2 mX mG mA mB r q)) := by
  have h0 := h
  obtain ⟨hF, hN, hC, hI, hfm, hnu, hgr⟩ := h
  obtain ⟨r1, hr1, q1, hq1, h1⟩ := zAnswer (got := got) (fk := fk) (fp := fp) (bg := bg) (wa := wa) (al := al) (mW := mW) hn ha ht ho hT T hN (zNR_N hnu)
  rw [hr1, hq1]
  simp only [zb_some]
  rcases h1 with ⟨g', e', k', s', v', o', z, b', i, x, rfl, rfl, hi, hx, ha1, T1⟩ | ⟨hs, hrow⟩
  · dsimp only at ha1 T1 ⊢
    obtain ⟨u1, u2⟩ := zTS_alw h0 hi hx
    obtain ⟨r2, hr2, q2, hq2, h2⟩ := zSemi (got := g') (fk := fk) (fp := fp) (wa := wa) hn ha1 ht ho T1
    rw [hr2, hq2]
    simp only [zb_some]
    rcases h2 with ⟨y', rfl, rfl, hy⟩ | hs
    · exact zw_some (zw_some (Or.inl ⟨_, y', _, _, _, _, _, rfl, rfl, hy, u1, u2⟩))
    · exact zw_some (zw_some (Or.inr ⟨hs, u2⟩))
  · obtain ⟨r2, hr2, h2, h3, h4⟩ := zSemi_0 (n := n) (f := f) (own := own) (s_20 := (r1.1, r1.2.1, r1.2.2.1, r1.2.2.2.1, cF, cc, r1.2.2.2.2.1, r1.2.2.2.2.2.1, r1.2.2.2.2.2.2.1, r1.2.2.2.2.2.2.2.1, r1.2.2.2.2.2.2.2.2.1, cN, inp, nF, stp, mst, prc, nN, op, fx, r1.2.2.2.2.2.2.2.2.2, lets, jn, made, amt)) hs.1
    rw [hr2]
    rw [zMark_n hs.2.1]
    simp only [zb_some]
    refine zw_some (zw_some (Or.inr ⟨⟨h2, hs.2.1, h3.trans hs.2.2.1, h4.trans hs.2.2.2⟩, ?_⟩))
    dsimp only
    rw [hrow]
    exact zFR_rf
theorem zw_zjE {σ ρ : Type} {j j' : σ → Option ρ} {k : (σ → Option ρ) → Option ρ} {P : ρ → Prop} (e : j = j') (h : zw (k j') P) : zw (zj j k) P := by
  subst e
  exact h
theorem zTok_o {n a e k s v o : Int32} {f g : Nat → Int32} (T : zTok n f g a e k s v o) (h : ¬ o = (-1)) : k = 1 ∧ e - s ≤ 6 ∧ zRun n g 1 s e ∧ v.toInt = zCV (zLV g s.toNatClampNeg (zSz s e)) ∧ zOwS v o := by
  obtain ⟨_, _, _, T⟩ := T
  rcases T with ⟨_, _, _, q⟩ | ⟨_, _, _, _, q⟩ | ⟨_, _, _, _, q⟩ | ⟨_, q1, _, q2, q3, q4, q5⟩ | ⟨_, _, _, _, q⟩ | ⟨_, _, _, _, _, _, q⟩
  · exact absurd q h
  · exact absurd q h
  · exact absurd q h
  · exact ⟨q3, q2, q1, q4, q5⟩
  · exact absurd q h
  · exact absurd q h
theorem zBeg_n {o : Int32} (h : zBeg o) : ¬ o = (-1) := by
  rcases h with rfl | rfl | rfl | rfl | rfl | rfl | rfl <;> decide
/-- the reference's own word, where the class has read a word -/
theorem zOwnT {n a e k s v o : Int32} {f g tab : Nat → Int32} (hn : n ≤ 1200) (ha : 0 ≤ a ∧ a ≤ n) (hT : (∀ k : Nat, k < 71 → tab k = zTab k)) (T : zTok n f g a e k s v o) (h : zIsW n g a s) : zw (fn_X12_own e s tab g) (fun r => k = 1 ∧ r = o ∨ k = 4 ∧ r = (-1)) := by
  obtain ⟨b1, b2, b3, b4⟩ := zTok_b ha T
  obtain ⟨hr, hk⟩ := zTok_w T h
  have hs : 0 ≤ s ∧ s ≤ 1200 := ⟨b1, by (first | ((try clear hT); (try clear T); (try clear h); grind) | grind)⟩
  have he : 0 ≤ e ∧ e ≤ 1200 := ⟨by (first | ((try clear hT); (try clear T); (try clear h); grind) | grind), by (first | ((try clear hT); (try clear T); (try clear h); grind) | grind)⟩
  refine zw_mono (zOwnM he hs b3 hT (fun i hi => zRun_l b1 b3 b4 hn hr.2.1 i hi)) (fun r hw => ?_)
  obtain ⟨_, _, w1, w2⟩ := hw
  rcases hk with ⟨k1, k2, k3, k4⟩ | ⟨k1, k2⟩
  · exact Or.inl ⟨k1, zOwS_un (w2 v k2 k3) k4⟩
  · exact Or.inr ⟨k1, w1 k2⟩
set_option maxRecDepth 100000 in
set_option maxHeartbeats 2000000 in
/-- no STATEMENT begins here -/
theorem zRS_1 {p n a e k s v o bg wa : Int32} {wv0 : Int64} {f g tab : Nat → Int32} {mF mN mNF mNN mS mM mC mW mCst mO m1 m2 mX mG : Nat → Int32} {mA mB : Nat → Int64} (hn : n ≤ 1200) (ha : 0 ≤ a ∧ a ≤ n) (hT : (∀ k : Nat, k < 71 → tab k = zTab k)) (T : zTok n f g a e k s v o) (h : ¬ zBeg o) : ∃ z b', fn_X12_readsStatement p n a bg 0 wa 1 wv0 g tab mF mN mNF mNN mS mM mC mW mCst mO m1 m2 mX mG mA mB = some (wv0, z, b', 1, s, mF, mN, mNF, mNN, mS, mM, mC, mW, mCst, mO, m1, m2, mX, mG, mA, mB) := by
  have hg2 : ∀ {ρ : Type} (e : Option ρ), zg 1 2 e = e := fun e => zg_in 2 (by decide +kernel) ⟨by decide, by decide⟩ e
  have g1 : fn_X12_goesWell 1 = some 0 := rfl
  have h10 : ¬ (1 : Int32) = 0 := by decide
  obtain ⟨w, hw, hc⟩ := zWordM (bg := bg) (wa := wa) hn ha T
  unfold fn_X12_readsStatement
  rw [hw]
  rcases hc with ⟨c, rfl⟩ | ⟨c, rfl⟩
  · obtain ⟨r, hr, hrr⟩ := zOwnT hn ha hT T c
    have hb : ¬ zBeg r := by
      rcases hrr with ⟨_, q⟩ | ⟨_, q⟩
      · rw [q]; exact h
      · rw [q]; unfold zBeg; decide
    have hb2 := (zStarts_n hb).2
    refine ⟨e, s, ?_⟩
    simp only [zb_some, zj, zGw_0, hr, hb2, zFl_0, g1, if_neg h10, if_true, hg2, ite_self]
  · refine ⟨s, s, ?_⟩
    simp only [zb_some, zj, g1, if_true, hg2, ite_self]
set_option maxRecDepth 100000 in
set_option maxHeartbeats 2000000 in
/-- no room is left -/
theorem zRS_4 {p n a e k s v o bg wa : Int32} {wv0 : Int64} {f g tab : Nat → Int32} {mF mN mNF mNN mS mM mC mW mCst mO m1 m2 mX mG : Nat → Int32} {mA mB : Nat → Int64} (hn : n ≤ 1200) (ha : 0 ≤ a ∧ a ≤ n) (hT : (∀ k : Nat, k < 71 → tab k = zTab k)) (T : zTok n f g a e k s v o) (h : zBeg o) (hf : zFull p o (mF 1) (mN 1)) : fn_X12_readsStatement p n a bg 0 wa 1 wv0 g tab mF mN mNF mNN mS mM mC mW mCst mO m1 m2 mX mG mA mB = some (wv0, e, s, 4, s, mF, mN, mNF, mNN, mS, mM, mC, mW, mCst, mO, m1, m2, mX, mG, mA, mB) := by
  have hg2 : ∀ {ρ : Type} (e : Option ρ), zg 1 2 e = e := fun e => zg_in 2 (by decide +kernel) ⟨by decide, by decide⟩ e
  have g4 : fn_X12_goesWell 4 = some 0 := rfl
  have h10 : ¬ (1 : Int32) = 0 := by decide
  have k1 := zTok_k1 T (zTok_o T (zBeg_n h)).1
  obtain ⟨w, hw, hc⟩ := zWordM (bg := bg) (wa := wa) hn ha T
  obtain ⟨r, hr, hrr⟩ := zOwnT hn ha hT T k1
  have er : r = o := by
    rcases hrr with ⟨_, q⟩ | ⟨q, _⟩
    · exact q
    · exact absurd ((zTok_o T (zBeg_n h)).1.symm.trans q) (by decide)
  subst er
  have hb2 := (zStarts_y h).2
  unfold fn_X12_readsStatement
  rw [hw]
  rcases hc with ⟨c, rfl⟩ | ⟨c, rfl⟩
  · simp only [zb_some, zj, zGw_0, hr, hb2, zFl_0, g4, if_neg h10, if_true, hg2, zn01.2]
    unfold zFull at hf
    (first | ((try clear hT); (try clear T); (try clear h); (try clear hf); (try clear hg2); (try clear g4); grind) | grind)
  · exact absurd k1 c
set_option maxRecDepth 100000 in
set_option maxHeartbeats 2000000 in
theorem zRS_fmt {p n a e k s v o bg wa : Int32} {wv0 : Int64} {f g tab : Nat → Int32} {mF mN mNF mNN mS mM mC mW mCst mO m1 m2 mX mG : Nat → Int32} {mA mB : Nat → Int64} (hn : n ≤ 1200) (ha : 0 ≤ a ∧ a ≤ n) (hT : (∀ k : Nat, k < 71 → tab k = zTab k)) (T : zTok n f g a e k s v o) (ho : o = 0) (hf : ¬ zFull p o (mF 1) (mN 1)) : fn_X12_readsStatement p n a bg 0 wa 1 wv0 g tab mF mN mNF mNN mS mM mC mW mCst mO m1 m2 mX mG mA mB = (zb (fn_X12_readsFormat n e s 0 wa 1 g tab mF mNF mN mNN mS mM mC) (fun o_1 => (zb (fn_X12_mark 59 n o_1.1 o_1.2.2.1 o_1.2.2.2.1 g) (fun o_2 => (some (wv0, o_2.1, o_1.2.1, o_2.2.1, o_2.2.2, o_1.2.2.2.2.1, mN, o_1.2.2.2.2.2.1, mNN, o_1.2.2.2.2.2.2.1, o_1.2.2.2.2.2.2.2.1, o_1.2.2.2.2.2.2.2.2, mW, mCst, mO, m1, m2, mX, mG, mA, mB)))))) := by
  have hg2 : ∀ {ρ : Type} (e : Option ρ), zg 1 2 e = e := fun e => zg_in 2 (by decide +kernel) ⟨by decide, by decide⟩ e
  have h10 : ¬ (1 : Int32) = 0 := by decide
  subst ho
  have q1 : ¬ (0 : Int32) = 1 := by decide
  have q2 : ¬ (0 : Int32) = 2 := by decide
  have q3 : ¬ (0 : Int32) = 3 := by decide
  have q4 : ¬ (0 : Int32) = 4 := by decide
  have q5 : ¬ (0 : Int32) = 5 := by decide
  have q6 : ¬ (0 : Int32) = 6 := by decide
  have q7 : ¬ (0 : Int32) = 7 := by decide
  have q8 : ¬ (0 : Int32) = 8 := by decide
  have q9 : ¬ (0 : Int32) = 9 := by decide
  have q10 : ¬ (0 : Int32) = 10 := by decide
  have h : zBeg 0 := by unfold zBeg; decide
  have k1 := zTok_k1 T (zTok_o T (zBeg_n h)).1
  obtain ⟨w, hw, hc⟩ := zWordM (bg := bg) (wa := wa) hn ha T
  obtain ⟨r, hr, hrr⟩ := zOwnT hn ha hT T k1
  have er : r = 0 := by
    rcases hrr with ⟨_, q⟩ | ⟨q, _⟩
    · exact q
    · exact absurd ((zTok_o T (zBeg_n h)).1.symm.trans q) (by decide)
  subst er
  have hb2 := (zStarts_y h).2
  have f1 : ¬ p = 40 := fun q => hf (Or.inl q)
  have f2 : ¬ mF 1 = 4  := fun q => hf (Or.inr (Or.inl ⟨rfl, q⟩))
  unfold fn_X12_readsStatement
  rw [hw]
  rcases hc with ⟨c, rfl⟩ | ⟨c, rfl⟩
  · simp only [zb_some, zj, zGw_0, hr, hb2, zn01.2, if_neg h10, if_neg f1, if_true, hg2, if_neg q1, if_neg q2, if_neg q3, if_neg q4, if_neg q5, if_neg q6, if_neg q7, if_neg q8, if_neg q9, if_neg q10, if_neg f2]
  · exact absurd k1 c
set_option maxRecDepth 100000 in
set_option maxHeartbeats 2000000 in
theorem zRS_cst {p n a e k s v o bg wa : Int32} {wv0 : Int64} {f g tab : Nat → Int32} {mF mN mNF mNN mS mM mC mW mCst mO m1 m2 mX mG : Nat → Int32} {mA mB : Nat → Int64} (hn : n ≤ 1200) (ha : 0 ≤ a ∧ a ≤ n) (hT : (∀ k : Nat, k < 71 → tab k = zTab k)) (T : zTok n f g a e k s v o) (ho : o = 4) (hf : ¬ zFull p o (mF 1) (mN 1)) : fn_X12_readsStatement p n a bg 0 wa 1 wv0 g tab mF mN mNF mNN mS mM mC mW mCst mO m1 m2 mX mG mA mB = (zb (fn_X12_number (0 : Int64) (999 : Int64) n e s 0 wa g) (fun o_1 => (zb (fn_X12_goesWell o_1.2.2.2.1) (fun o_67 => (if o_67 = 0 then (zg 1 2 (zb (fn_X12_mark 59 n o_1.2.1 o_1.2.2.2.1 o_1.2.2.2.2 g) (fun o_2 => (some (wv0, o_2.1, o_1.2.2.1, o_2.2.1, o_2.2.2, mF, mN, mNF, mNN, mS, mM, mC, mW, (upd mCst (1 : Int32).toNatClampNeg (mCst (1 : Int32).toNatClampNeg)), mO, m1, m2, mX, mG, mA, mB))))) else (zg 1 2 (zb (fn_X12_mark 59 n o_1.2.1 o_1.2.2.2.1 o_1.2.2.2.2 g) (fun o_2 => (some (wv0, o_2.1, o_1.2.2.1, o_2.2.1, o_2.2.2, mF, mN, mNF, mNN, mS, mM, mC, mW, (upd mCst (1 : Int32).toNatClampNeg o_1.1.toInt32), mO, m1, m2, mX, mG, mA, mB)))))))))) := by
  have hg2 : ∀ {ρ : Type} (e : Option ρ), zg 1 2 e = e := fun e => zg_in 2 (by decide +kernel) ⟨by decide, by decide⟩ e
  have h10 : ¬ (1 : Int32) = 0 := by decide
  subst ho
  have q0 : ¬ (4 : Int32) = 0 := by decide
  have q1 : ¬ (4 : Int32) = 1 := by decide
  have q2 : ¬ (4 : Int32) = 2 := by decide
  have q3 : ¬ (4 : Int32) = 3 := by decide
  have q5 : ¬ (4 : Int32) = 5 := by decide
  have q6 : ¬ (4 : Int32) = 6 := by decide
  have q7 : ¬ (4 : Int32) = 7 := by decide
  have q8 : ¬ (4 : Int32) = 8 := by decide
  have q9 : ¬ (4 : Int32) = 9 := by decide
  have q10 : ¬ (4 : Int32) = 10 := by decide
  have h : zBeg 4 := by unfold zBeg; decide
  have k1 := zTok_k1 T (zTok_o T (zBeg_n h)).1
  obtain ⟨w, hw, hc⟩ := zWordM (bg := bg) (wa := wa) hn ha T
  obtain ⟨r, hr, hrr⟩ := zOwnT hn ha hT T k1
  have er : r = 4 := by
    rcases hrr with ⟨_, q⟩ | ⟨q, _⟩
    · exact q
    · exact absurd ((zTok_o T (zBeg_n h)).1.symm.trans q) (by decide)
  subst er
  have hb2 := (zStarts_y h).2
  have f1 : ¬ p = 40 := fun q => hf (Or.inl q)
  have f2 : ¬ mF 1 = 4 ∨ True := Or.inr trivial
  unfold fn_X12_readsStatement
  rw [hw]
  rcases hc with ⟨c, rfl⟩ | ⟨c, rfl⟩
  · simp only [zb_some, zj, zGw_0, hr, hb2, zn01.2, if_neg h10, if_neg f1, if_true, hg2, if_neg q0, if_neg q1, if_neg q2, if_neg q3, if_neg q5, if_neg q6, if_neg q7, if_neg q8, if_neg q9, if_neg q10]
  · exact absurd k1 c
set_option maxRecDepth 100000 in
set_option maxHeartbeats 2000000 in
theorem zRS_box {p n a e k s v o bg wa : Int32} {wv0 : Int64} {f g tab : Nat → Int32} {mF mN mNF mNN mS mM mC mW mCst mO m1 m2 mX mG : Nat → Int32} {mA mB : Nat → Int64} (hn : n ≤ 1200) (ha : 0 ≤ a ∧ a ≤ n) (hT : (∀ k : Nat, k < 71 → tab k = zTab k)) (T : zTok n f g a e k s v o) (ho : o = 5) (hf : ¬ zFull p o (mF 1) (mN 1)) : fn_X12_readsStatement p n a bg 0 wa 1 wv0 g tab mF mN mNF mNN mS mM mC mW mCst mO m1 m2 mX mG mA mB = (zb (fn_X12_readsInput n e s 0 wa 1 g tab mF mNF mN mNN mO m1 m2 mX mW mG mA mB) (fun o_1 => (zb (fn_X12_mark 59 n o_1.1 o_1.2.2.1 o_1.2.2.2.1 g) (fun o_2 => (some (wv0, o_2.1, o_1.2.1, o_2.2.1, o_2.2.2, mF, o_1.2.2.2.2.1, mNF, o_1.2.2.2.2.2.1, mS, mM, mC, o_1.2.2.2.2.2.2.2.2.2.2.1, mCst, o_1.2.2.2.2.2.2.1, o_1.2.2.2.2.2.2.2.1, o_1.2.2.2.2.2.2.2.2.1, o_1.2.2.2.2.2.2.2.2.2.1, o_1.2.2.2.2.2.2.2.2.2.2.2.1, o_1.2.2.2.2.2.2.2.2.2.2.2.2.1, o_1.2.2.2.2.2.2.2.2.2.2.2.2.2)))))) := by
  have hg2 : ∀ {ρ : Type} (e : Option ρ), zg 1 2 e = e := fun e => zg_in 2 (by decide +kernel) ⟨by decide, by decide⟩ e
  have h10 : ¬ (1 : Int32) = 0 := by decide
  subst ho
  have q0 : ¬ (5 : Int32) = 0 := by decide
  have q1 : ¬ (5 : Int32) = 1 := by decide
  have q2 : ¬ (5 : Int32) = 2 := by decide
  have q3 : ¬ (5 : Int32) = 3 := by decide
  have q4 : ¬ (5 : Int32) = 4 := by decide
  have q6 : ¬ (5 : Int32) = 6 := by decide
  have q7 : ¬ (5 : Int32) = 7 := by decide
  have q8 : ¬ (5 : Int32) = 8 := by decide
  have q9 : ¬ (5 : Int32) = 9 := by decide
  have q10 : ¬ (5 : Int32) = 10 := by decide
  have h : zBeg 5 := by unfold zBeg; decide
  have k1 := zTok_k1 T (zTok_o T (zBeg_n h)).1
  obtain ⟨w, hw, hc⟩ := zWordM (bg := bg) (wa := wa) hn ha T
  obtain ⟨r, hr, hrr⟩ := zOwnT hn ha hT T k1
  have er : r = 5 := by
    rcases hrr with ⟨_, q⟩ | ⟨q, _⟩
    · exact q
    · exact absurd ((zTok_o T (zBeg_n h)).1.symm.trans q) (by decide)
  subst er
  have hb2 := (zStarts_y h).2
  have f1 : ¬ p = 40 := fun q => hf (Or.inl q)
  have f2 : ¬ mF 1 = 4 ∨ True := Or.inr trivial
  unfold fn_X12_readsStatement
  rw [hw]
  rcases hc with ⟨c, rfl⟩ | ⟨c, rfl⟩
  · simp only [zb_some, zj, zGw_0, hr, hb2, zn01.2, if_neg h10, if_neg f1, if_true, hg2, if_neg q0, if_neg q1, if_neg q2, if_neg q3, if_neg q4, if_neg q6, if_neg q7, if_neg q8, if_neg q9, if_neg q10, if_neg (show ¬ mN 1 = 14 from fun q => hf (Or.inr (Or.inr ⟨Or.inl rfl, q⟩)))]
  · exact absurd k1 c
set_option maxRecDepth 100000 in
set_option maxHeartbeats 2000000 in
theorem zRS_let {p n a e k s v o bg wa : Int32} {wv0 : Int64} {f g tab : Nat → Int32} {mF mN mNF mNN mS mM mC mW mCst mO m1 m2 mX mG : Nat → Int32} {mA mB : Nat → Int64} (hn : n ≤ 1200) (ha : 0 ≤ a ∧ a ≤ n) (hT : (∀ k : Nat, k < 71 → tab k = zTab k)) (T : zTok n f g a e k s v o) (ho : o = 6) (hf : ¬ zFull p o (mF 1) (mN 1)) : fn_X12_readsStatement p n a bg 0 wa 1 wv0 g tab mF mN mNF mNN mS mM mC mW mCst mO m1 m2 mX mG mA mB = (zb (fn_X12_readsLet n e s 0 wa 1 g tab mF mNF mN mNN mO m1 m2 mX mW mG mA mB) (fun o_1 => (zb (fn_X12_mark 59 n o_1.2.1 o_1.2.2.2.1 o_1.2.2.2.2.1 g) (fun o_2 => (some (o_1.1, o_2.1, o_1.2.2.1, o_2.2.1, o_2.2.2, mF, o_1.2.2.2.2.2.1, mNF, o_1.2.2.2.2.2.2.1, mS, mM, mC, o_1.2.2.2.2.2.2.2.2.2.2.2.1, mCst, o_1.2.2.2.2.2.2.2.1, o_1.2.2.2.2.2.2.2.2.1, o_1.2.2.2.2.2.2.2.2.2.1, o_1.2.2.2.2.2.2.2.2.2.2.1, o_1.2.2.2.2.2.2.2.2.2.2.2.2.1, o_1.2.2.2.2.2.2.2.2.2.2.2.2.2.1, o_1.2.2.2.2.2.2.2.2.2.2.2.2.2.2)))))) := by
  have hg2 : ∀ {ρ : Type} (e : Option ρ), zg 1 2 e = e := fun e => zg_in 2 (by decide +kernel) ⟨by decide, by decide⟩ e
  have h10 : ¬ (1 : Int32) = 0 := by decide
  subst ho
  have q0 : ¬ (6 : Int32) = 0 := by decide
  have q1 : ¬ (6 : Int32) = 1 := by decide
  have q2 : ¬ (6 : Int32) = 2 := by decide
  have q3 : ¬ (6 : Int32) = 3 := by decide
  have q4 : ¬ (6 : Int32) = 4 := by decide
  have q5 : ¬ (6 : Int32) = 5 := by decide
  have q7 : ¬ (6 : Int32) = 7 := by decide
  have q8 : ¬ (6 : Int32) = 8 := by decide
  have q9 : ¬ (6 : Int32) = 9 := by decide
  have q10 : ¬ (6 : Int32) = 10 := by decide
  have h : zBeg 6 := by unfold zBeg; decide
  have k1 := zTok_k1 T (zTok_o T (zBeg_n h)).1
  obtain ⟨w, hw, hc⟩ := zWordM (bg := bg) (wa := wa) hn ha T
  obtain ⟨r, hr, hrr⟩ := zOwnT hn ha hT T k1
  have er : r = 6 := by
    rcases hrr with ⟨_, q⟩ | ⟨q, _⟩
    · exact q
    · exact absurd ((zTok_o T (zBeg_n h)).1.symm.trans q) (by decide)
  subst er
  have hb2 := (zStarts_y h).2
  have f1 : ¬ p = 40 := fun q => hf (Or.inl q)
  have f2 : ¬ mF 1 = 4 ∨ True := Or.inr trivial
  unfold fn_X12_readsStatement
  rw [hw]
  rcases hc with ⟨c, rfl⟩ | ⟨c, rfl⟩
  · simp only [zb_some, zj, zGw_0, hr, hb2, zn01.2, if_neg h10, if_neg f1, if_true, hg2, if_neg q0, if_neg q1, if_neg q2, if_neg q3, if_neg q4, if_neg q5, if_neg q7, if_neg q8, if_neg q9, if_neg q10, if_neg (show ¬ mN 1 = 14 from fun q => hf (Or.inr (Or.inr ⟨Or.inr rfl, q⟩)))]
  · exact absurd k1 c
set_option maxRecDepth 100000 in
set_option maxHeartbeats 2000000 in
theorem zRS_fix {p n a e k s v o bg wa : Int32} {wv0 : Int64} {f g tab : Nat → Int32} {mF mN mNF mNN mS mM mC mW mCst mO m1 m2 mX mG : Nat → Int32} {mA mB : Nat → Int64} (hn : n ≤ 1200) (ha : 0 ≤ a ∧ a ≤ n) (hT : (∀ k : Nat, k < 71 → tab k = zTab k)) (T : zTok n f g a e k s v o) (ho : o = 9) (hf : ¬ zFull p o (mF 1) (mN 1)) : fn_X12_readsStatement p n a bg 0 wa 1 wv0 g tab mF mN mNF mNN mS mM mC mW mCst mO m1 m2 mX mG mA mB = (zb (fn_X12_readsFixed n e s 0 wa 1 g tab mN mNN mF mNF mX) (fun o_1 => (zb (fn_X12_mark 59 n o_1.1 o_1.2.2.1 o_1.2.2.2.1 g) (fun o_2 => (some (wv0, o_2.1, o_1.2.1, o_2.2.1, o_2.2.2, mF, mN, mNF, mNN, mS, mM, mC, mW, mCst, mO, m1, m2, o_1.2.2.2.2, mG, mA, mB)))))) := by
  have hg2 : ∀ {ρ : Type} (e : Option ρ), zg 1 2 e = e := fun e => zg_in 2 (by decide +kernel) ⟨by decide, by decide⟩ e
  have h10 : ¬ (1 : Int32) = 0 := by decide
  subst ho
  have q0 : ¬ (9 : Int32) = 0 := by decide
  have q1 : ¬ (9 : Int32) = 1 := by decide
  have q2 : ¬ (9 : Int32) = 2 := by decide
  have q3 : ¬ (9 : Int32) = 3 := by decide
  have q4 : ¬ (9 : Int32) = 4 := by decide
  have q5 : ¬ (9 : Int32) = 5 := by decide
  have q6 : ¬ (9 : Int32) = 6 := by decide
  have q7 : ¬ (9 : Int32) = 7 := by decide
  have q8 : ¬ (9 : Int32) = 8 := by decide
  have q10 : ¬ (9 : Int32) = 10 := by decide
  have h : zBeg 9 := by unfold zBeg; decide
  have k1 := zTok_k1 T (zTok_o T (zBeg_n h)).1
  obtain ⟨w, hw, hc⟩ := zWordM (bg := bg) (wa := wa) hn ha T
  obtain ⟨r, hr, hrr⟩ := zOwnT hn ha hT T k1
  have er : r = 9 := by
    rcases hrr with ⟨_, q⟩ | ⟨q, _⟩
    · exact q
    · exact absurd ((zTok_o T (zBeg_n h)).1.symm.trans q) (by decide)
  subst er
  have hb2 := (zStarts_y h).2
  have f1 : ¬ p = 40 := fun q => hf (Or.inl q)
  have f2 : ¬ mF 1 = 4 ∨ True := Or.inr trivial
  unfold fn_X12_readsStatement
  rw [hw]
  rcases hc with ⟨c, rfl⟩ | ⟨c, rfl⟩
  · simp only [zb_some, zj, zGw_0, hr, hb2, zn01.2, if_neg h10, if_neg f1, if_true, hg2, if_neg q0, if_neg q1, if_neg q2, if_neg q3, if_neg q4, if_neg q5, if_neg q6, if_neg q7, if_neg q8, if_neg q10]
  · exact absurd k1 c
set_option maxRecDepth 100000 in
set_option maxHeartbeats 2000000 in
theorem zRS_grp {p n a e k s v o bg wa : Int32} {wv0 : Int64} {f g tab : Nat → Int32} {mF mN mNF mNN mS mM mC mW mCst mO m1 m2 mX mG : Nat → Int32} {mA mB : Nat → Int64} (hn : n ≤ 1200) (ha : 0 ≤ a ∧ a ≤ n) (hT : (∀ k : Nat, k < 71 → tab k = zTab k)) (T : zTok n f g a e k s v o) (ho : o = 10) (hf : ¬ zFull p o (mF 1) (mN 1)) : fn_X12_readsStatement p n a bg 0 wa 1 wv0 g tab mF mN mNF mNN mS mM mC mW mCst mO m1 m2 mX mG mA mB = (zb (fn_X12_readsGroup n e s 0 wa 1 g tab mN mNN mG) (fun o_1 => (zb (fn_X12_mark 59 n o_1.1 o_1.2.2.1 o_1.2.2.2.1 g) (fun o_2 => (some (wv0, o_2.1, o_1.2.1, o_2.2.1, o_2.2.2, mF, mN, mNF, mNN, mS, mM, mC, mW, mCst, mO, m1, m2, mX, o_1.2.2.2.2, mA, mB)))))) := by
  have hg2 : ∀ {ρ : Type} (e : Option ρ), zg 1 2 e = e := fun e => zg_in 2 (by decide +kernel) ⟨by decide, by decide⟩ e
  have h10 : ¬ (1 : Int32) = 0 := by decide
  subst ho
  have q0 : ¬ (10 : Int32) = 0 := by decide
  have q1 : ¬ (10 : Int32) = 1 := by decide
  have q2 : ¬ (10 : Int32) = 2 := by decide
  have q3 : ¬ (10 : Int32) = 3 := by decide
  have q4 : ¬ (10 : Int32) = 4 := by decide
  have q5 : ¬ (10 : Int32) = 5 := by decide
  have q6 : ¬ (10 : Int32) = 6 := by decide
  have q7 : ¬ (10 : Int32) = 7 := by decide
  have q8 : ¬ (10 : Int32) = 8 := by decide
  have q9 : ¬ (10 : Int32) = 9 := by decide
  have h : zBeg 10 := by unfold zBeg; decide
  have k1 := zTok_k1 T (zTok_o T (zBeg_n h)).1
  obtain ⟨w, hw, hc⟩ := zWordM (bg := bg) (wa := wa) hn ha T
  obtain ⟨r, hr, hrr⟩ := zOwnT hn ha hT T k1
  have er : r = 10 := by
    rcases hrr with ⟨_, q⟩ | ⟨q, _⟩
    · exact q
    · exact absurd ((zTok_o T (zBeg_n h)).1.symm.trans q) (by decide)
  subst er
  have hb2 := (zStarts_y h).2
  have f1 : ¬ p = 40 := fun q => hf (Or.inl q)
  have f2 : ¬ mF 1 = 4 ∨ True := Or.inr trivial
  unfold fn_X12_readsStatement
  rw [hw]
  rcases hc with ⟨c, rfl⟩ | ⟨c, rfl⟩
  · simp only [zb_some, zj, zGw_0, hr, hb2, zn01.2, if_neg h10, if_neg f1, if_true, hg2, if_neg q0, if_neg q1, if_neg q2, if_neg q3, if_neg q4, if_neg q5, if_neg q6, if_neg q7, if_neg q8, if_neg q9]
  · exact absurd k1 c
set_option maxRecDepth 100000 in
set_option maxHeartbeats 2000000 in
theorem zRS_alw {p n a e k s v o bg wa : Int32} {wv0 : Int64} {f g tab : Nat → Int32} {mF mN mNF mNN mS mM mC mW mCst mO m1 m2 mX mG : Nat → Int32} {mA mB : Nat → Int64} (hn : n ≤ 1200) (ha : 0 ≤ a ∧ a ≤ n) (hT : (∀ k : Nat, k < 71 → tab k = zTab k)) (T : zTok n f g a e k s v o) (ho : o = 11) (hf : ¬ zFull p o (mF 1) (mN 1)) : fn_X12_readsStatement p n a bg 0 wa 1 wv0 g tab mF mN mNF mNN mS mM mC mW mCst mO m1 m2 mX mG mA mB = (zb (fn_X12_readsAnswer n e s 0 wa 1 g tab mN mNN mW) (fun o_1 => (zb (fn_X12_mark 59 n o_1.1 o_1.2.2.1 o_1.2.2.2.1 g) (fun o_2 => (some (wv0, o_2.1, o_1.2.1, o_2.2.1, o_2.2.2, mF, mN, mNF, mNN, mS, mM, mC, o_1.2.2.2.2, mCst, mO, m1, m2, mX, mG, mA, mB)))))) := by
  have hg2 : ∀ {ρ : Type} (e : Option ρ), zg 1 2 e = e := fun e => zg_in 2 (by decide +kernel) ⟨by decide, by decide⟩ e
  have h10 : ¬ (1 : Int32) = 0 := by decide
  subst ho
  have q0 : ¬ (11 : Int32) = 0 := by decide
  have q1 : ¬ (11 : Int32) = 1 := by decide
  have q2 : ¬ (11 : Int32) = 2 := by decide
  have q3 : ¬ (11 : Int32) = 3 := by decide
  have q4 : ¬ (11 : Int32) = 4 := by decide
  have q5 : ¬ (11 : Int32) = 5 := by decide
  have q6 : ¬ (11 : Int32) = 6 := by decide
  have q7 : ¬ (11 : Int32) = 7 := by decide
  have q8 : ¬ (11 : Int32) = 8 := by decide
  have q9 : ¬ (11 : Int32) = 9 := by decide
  have q10 : ¬ (11 : Int32) = 10 := by decide
  have h : zBeg 11 := by unfold zBeg; decide
  have k1 := zTok_k1 T (zTok_o T (zBeg_n h)).1
  obtain ⟨w, hw, hc⟩ := zWordM (bg := bg) (wa := wa) hn ha T
  obtain ⟨r, hr, hrr⟩ := zOwnT hn ha hT T k1
  have er : r = 11 := by
    rcases hrr with ⟨_, q⟩ | ⟨q, _⟩
    · exact q
    · exact absurd ((zTok_o T (zBeg_n h)).1.symm.trans q) (by decide)
  subst er
  have hb2 := (zStarts_y h).2
  have f1 : ¬ p = 40 := fun q => hf (Or.inl q)
  have f2 : ¬ mF 1 = 4 ∨ True := Or.inr trivial
  unfold fn_X12_readsStatement
  rw [hw]
  rcases hc with ⟨c, rfl⟩ | ⟨c, rfl⟩
  · simp only [zb_some, zj, zGw_0, hr, hb2, zn01.2, if_neg h10, if_neg f1, if_true, hg2, if_neg q0, if_neg q1, if_neg q2, if_neg q3, if_neg q4, if_neg q5, if_neg q6, if_neg q7, if_neg q8, if_neg q9, if_neg q10]
  · exact absurd k1 c
set_option maxRecDepth 100000 in
set_option maxHeartbeats 4000000 in
theorem zStmt {p n a e k s v o got fk fp bg wa : Int32} {wv0 : Int64} {f g own tab : Nat → Int32} {cF cc cN inp : Int32} {nF nN stp mst prc al made amt op fx jn lets : Nat → Int32} {mF mN mNF mNN mS mM mC mW mCst mO m1 m2 mX mG : Nat → Int32} {mA mB : Nat → Int64} (hn : n ≤ 1200) (ha : 0 ≤ a ∧ a ≤ n) (ht : zTp f g) (ho : ∀ w : Nat, w < 13 → own w = zOwT w) (hT : (∀ k : Nat, k < 71 → tab k = zTab k)) (T : zTok n f g a e k s v o) (h : zTS cF cc cN inp nF nN stp mst prc al made amt op fx jn lets mF mN mNF mNN mS mM mC mW mCst mO m1 m2 mX mG mA mB) (hp : 0 ≤ p ∧ p ≤ 40) : zw (fn_X5_readStatement p got fk fp n e k s v o cF cc cN inp f own nF nN stp mst prc al made amt op fx jn lets) (fun r => zw (fn_X12_readsStatement p n a bg 0 wa 1 wv0 g tab mF mN mNF mNN mS mM mC mW mCst mO m1 m2 mX mG mA mB) (fun q => zSR n f g fk fp wa mF mN mNF mNN mS mM mC mW mCst mO m1 m2 mX mG mA mB r q ∧ (¬ r.1 = 0 → p < 40))) := by
  have h0 := h
  obtain ⟨hF, hN, hC, hI, hfm, hnu, hgr⟩ := h
  have h10 : ¬ (1 : Int32) = 0 := by decide
  unfold fn_X5_readStatement
  by_cases hb : zBeg o
  · rw [(zStarts_y hb).1]
    simp only [zb_some]
    rw [if_neg h10]
    by_cases hf : zFull p o (mF 1) (mN 1)
    · have hm := zRS_4 (bg := bg) (wa := wa) (wv0 := wv0) (mNF := mNF) (mNN := mNN) (mS := mS) (mM := mM) (mC := mC) (mW := mW) (mCst := mCst) (mO := mO) (m1 := m1) (m2 := m2) (mX := mX) (mG := mG) (mA := mA) (mB := mB) hn ha hT T hb hf
      rw [hm]
      refine zw_if (fun c => ?_) (fun c => ?_)
      · exact zw_some (zw_some ⟨Or.inr ⟨⟨rfl, show ¬ (4 : Int32) = 0 by decide, rfl, rfl⟩, zFR_rf⟩, fun q => absurd rfl q⟩)
      · have hfc : o = 0 ∧ cF = 4 ∨ (o = 5 ∨ o = 6) ∧ cN = 14 := by
          rw [hF.1, hN.1] at hf
          rcases hf with q | q
          · exact absurd (show 40 ≤ p by rw [q]; decide) c
          · exact q
        rw [zIsFull hF.2 hN.2, if_pos hfc]
        simp only [zb_some]
        rw [if_neg h10]
        exact zw_some (zw_some ⟨Or.inr ⟨⟨rfl, show ¬ (4 : Int32) = 0 by decide, rfl, rfl⟩, zFR_rf⟩, fun q => absurd rfl q⟩)
    · have hf40 : ¬ 40 ≤ p := fun q => hf (Or.inl (by (first | ((try clear ht); (try clear ho); (try clear hT); (try clear T); (try clear h); grind) | grind)))
      have hnf : ¬ (o = 0 ∧ cF = 4 ∨ (o = 5 ∨ o = 6) ∧ cN = 14) := fun q => hf (by rw [hF.1, hN.1]; exact Or.inr q)
      rw [if_neg hf40, zIsFull hF.2 hN.2, if_neg hnf]
      simp only [zb_some]
      rw [if_pos trivial]
      have hk1 := (zTok_o T (zBeg_n hb)).1
      refine zw_zb0 (zAdvN hn ha ht ho T (Or.inl hk1)) (fun x hx => ?_)
      have ha1 := (zTok_nx hn ha T (Or.inl hk1)).1
      refine zw_zjE (j' := zJ5 n f own) rfl ?_
      (try dsimp only)
      have hb' := hb
      rcases hb' with q | q | q | q | q | q | q
      · rw [zRS_fmt (bg := bg) (wa := wa) (wv0 := wv0) hn ha hT T q hf]
        rw [if_pos q]
        exact zw_mono (zSt_fmt (wv0 := wv0) hn ha1 ht ho hT hx h0 (by rw [hF.1, hN.1] at hf; unfold zFull at hf; (first | ((try clear ht); (try clear ho); (try clear hT); (try clear T); (try clear h); (try clear hx); grind) | grind))) (fun r hr => zw_mono hr (fun q hq => ⟨hq, fun _ => by (first | ((try clear ht); (try clear ho); (try clear hT); (try clear T); (try clear h); (try clear hx); grind) | grind)⟩))
      · rw [zRS_cst (bg := bg) (wa := wa) (wv0 := wv0) hn ha hT T q hf]
        rw [if_neg (by rw [q]; decide), if_neg (by rw [q]; decide), if_neg (by rw [q]; decide), if_neg (by rw [q]; decide), if_pos q]
        exact zw_mono (zSt_cst (wv0 := wv0) hn ha1 ht ho hT hx h0) (fun r hr => zw_mono hr (fun q hq => ⟨hq, fun _ => by (first | ((try clear ht); (try clear ho); (try clear hT); (try clear T); (try clear h); (try clear hx); grind) | grind)⟩))
      · rw [zRS_box (bg := bg) (wa := wa) (wv0 := wv0) hn ha hT T q hf]
        rw [if_neg (by rw [q]; decide), if_neg (by rw [q]; decide), if_neg (by rw [q]; decide), if_neg (by rw [q]; decide), if_neg (by rw [q]; decide), if_pos q]
        exact zw_mono (zSt_box (wv0 := wv0) hn ha1 ht ho hT hx h0 (by rw [hF.1, hN.1] at hf; unfold zFull at hf; (first | ((try clear ht); (try clear ho); (try clear hT); (try clear T); (try clear h); (try clear hx); grind) | grind))) (fun r hr => zw_mono hr (fun q hq => ⟨hq, fun _ => by (first | ((try clear ht); (try clear ho); (try clear hT); (try clear T); (try clear h); (try clear hx); grind) | grind)⟩))
      · rw [zRS_let (bg := bg) (wa := wa) (wv0 := wv0) hn ha hT T q hf]
        rw [if_neg (by rw [q]; decide), if_neg (by rw [q]; decide), if_neg (by rw [q]; decide), if_neg (by rw [q]; decide), if_neg (by rw [q]; decide), if_neg (by rw [q]; decide), if_pos q]
        exact zw_mono (zSt_let (wv0 := wv0) hn ha1 ht ho hT hx h0 (by rw [hF.1, hN.1] at hf; unfold zFull at hf; (first | ((try clear ht); (try clear ho); (try clear hT); (try clear T); (try clear h); (try clear hx); grind) | grind))) (fun r hr => zw_mono hr (fun q hq => ⟨hq, fun _ => by (first | ((try clear ht); (try clear ho); (try clear hT); (try clear T); (try clear h); (try clear hx); grind) | grind)⟩))
      · rw [zRS_fix (bg := bg) (wa := wa) (wv0 := wv0) hn ha hT T q hf]
        rw [if_neg (by rw [q]; decide), if_neg (by rw [q]; decide), if_neg (by rw [q]; decide), if_neg (by rw [q]; decide), if_neg (by rw [q]; decide), if_neg (by rw [q]; decide), if_neg (by rw [q]; decide), if_neg (by rw [q]; decide), if_neg (by rw [q]; decide), if_pos q]
        exact zw_mono (zSt_fix (wv0 := wv0) hn ha1 ht ho hT hx h0) (fun r hr => zw_mono hr (fun q hq => ⟨hq, fun _ => by (first | ((try clear ht); (try clear ho); (try clear hT); (try clear T); (try clear h); (try clear hx); grind) | grind)⟩))
      · rw [zRS_grp (bg := bg) (wa := wa) (wv0 := wv0) hn ha hT T q hf]
        rw [if_neg (by rw [q]; decide), if_neg (by rw [q]; decide), if_neg (by rw [q]; decide), if_neg (by rw [q]; decide), if_neg (by rw [q]; decide), if_neg (by rw [q]; decide), if_neg (by rw [q]; decide), if_neg (by rw [q]; decide), if_neg (by rw [q]; decide), if_neg (by rw [q]; decide), if_pos q]
        exact zw_mono (zSt_grp (wv0 := wv0) hn ha1 ht ho hT hx h0) (fun r hr => zw_mono hr (fun q hq => ⟨hq, fun _ => by (first | ((try clear ht); (try clear ho); (try clear hT); (try clear T); (try clear h); (try clear hx); grind) | grind)⟩))
      · rw [zRS_alw (bg := bg) (wa := wa) (wv0 := wv0) hn ha hT T q hf]
        rw [if_neg (by rw [q]; decide), if_neg (by rw [q]; decide), if_neg (by rw [q]; decide), if_neg (by rw [q]; decide), if_neg (by rw [q]; decide), if_neg (by rw [q]; decide), if_neg (by rw [q]; decide), if_neg (by rw [q]; decide), if_neg (by rw [q]; decide), if_neg (by rw [q]; decide), if_neg (by rw [q]; decide)]
        exact zw_mono (zSt_alw (wv0 := wv0) hn ha1 ht ho hT hx h0) (fun r hr => zw_mono hr (fun q hq => ⟨hq, fun _ => by (first | ((try clear ht); (try clear ho); (try clear hT); (try clear T); (try clear h); (try clear hx); grind) | grind)⟩))
  · obtain ⟨z, b', hm⟩ := zRS_1 (p := p) (bg := bg) (wa := wa) (wv0 := wv0) (mF := mF) (mN := mN) (mNF := mNF) (mNN := mNN) (mS := mS) (mM := mM) (mC := mC) (mW := mW) (mCst := mCst) (mO := mO) (m1 := m1) (m2 := m2) (mX := mX) (mG := mG) (mA := mA) (mB := mB) hn ha hT T hb
    rw [hm, (zStarts_n hb).1]
    simp only [zb_some]
    rw [if_pos trivial]
    exact zw_some (zw_some ⟨Or.inr ⟨⟨rfl, show ¬ (1 : Int32) = 0 by decide, rfl, rfl⟩, zFR_rf⟩, fun q => absurd rfl q⟩)
set_option maxRecDepth 100000 in
noncomputable def zB5 (len n : Int32) (f own : Nat → Int32) (s_9 : Int32 × Int32 × Int32 × Int32 × Int32 × Int32 × Int32 × Int32 × Int32 × Int32 × Int32 × Int32 × Int32 × (Nat → Int32) × (Nat → Int32) × (Nat → Int32) × (Nat → Int32) × (Nat → Int32) × (Nat → Int32) × (Nat → Int32) × (Nat → Int32) × (Nat → Int32) × (Nat → Int32) × (Nat → Int32) × (Nat → Int32)) (back_9 : (Int32 × Int32 × Int32 × Int32 × Int32 × Int32 × Int32 × Int32 × Int32 × Int32 × Int32 × Int32 × Int32 × (Nat → Int32) × (Nat → Int32) × (Nat → Int32) × (Nat → Int32) × (Nat → Int32) × (Nat → Int32) × (Nat → Int32) × (Nat → Int32) × (Nat → Int32) × (Nat → Int32) × (Nat → Int32) × (Nat → Int32)) → Option (Int32 × Int32 × Int32 × Int32 × Int32 × Int32 × Int32 × Int32 × Int32 × Int32 × Int32 × Int32 × Int32 × Int32 × (Nat → Int32) × (Nat → Int32) × (Nat → Int32) × (Nat → Int32) × (Nat → Int32) × (Nat → Int32) × (Nat → Int32) × (Nat → Int32) × (Nat → Int32) × (Nat → Int32) × (Nat → Int32) × (Nat → Int32))) : Option (Int32 × Int32 × Int32 × Int32 × Int32 × Int32 × Int32 × Int32 × Int32 × Int32 × Int32 × Int32 × Int32 × Int32 × (Nat → Int32) × (Nat → Int32) × (Nat → Int32) × (Nat → Int32) × (Nat → Int32) × (Nat → Int32) × (Nat → Int32) × (Nat → Int32) × (Nat → Int32) × (Nat → Int32) × (Nat → Int32) × (Nat → Int32)) := (zj (fun (s_10 : Unit) => (zj (fun (s_11 : Int32) => (if s_11 = 0 then (zb (fn_X5_stopAt 4 len) (fun o_13 => (if o_13.1 = 0 then (some ((0 : Int32), s_9.2.1, o_13.2.1, o_13.2.2, s_9.2.2.2.2.1, s_9.2.2.2.2.2.1, s_9.2.2.2.2.2.2.2.2.2.2.2.1, s_9.2.2.2.2.2.2.2.2.2.2.2.2.1, n, s_9.2.2.2.2.2.2.1, s_9.2.2.2.2.2.2.2.1, s_9.2.2.2.2.2.2.2.2.1, s_9.2.2.2.2.2.2.2.2.2.1, s_9.2.2.2.2.2.2.2.2.2.2.1, s_9.2.2.2.2.2.2.2.2.2.2.2.2.2.1, s_9.2.2.2.2.2.2.2.2.2.2.2.2.2.2.2.2.2.1, s_9.2.2.2.2.2.2.2.2.2.2.2.2.2.2.1, s_9.2.2.2.2.2.2.2.2.2.2.2.2.2.2.2.1, s_9.2.2.2.2.2.2.2.2.2.2.2.2.2.2.2.2.1, s_9.2.2.2.2.2.2.2.2.2.2.2.2.2.2.2.2.2.2.2.2.1, s_9.2.2.2.2.2.2.2.2.2.2.2.2.2.2.2.2.2.2.2.2.2.2.2.1, s_9.2.2.2.2.2.2.2.2.2.2.2.2.2.2.2.2.2.2.2.2.2.2.2.2, s_9.2.2.2.2.2.2.2.2.2.2.2.2.2.2.2.2.2.2.1, s_9.2.2.2.2.2.2.2.2.2.2.2.2.2.2.2.2.2.2.2.1, s_9.2.2.2.2.2.2.2.2.2.2.2.2.2.2.2.2.2.2.2.2.2.2.1, s_9.2.2.2.2.2.2.2.2.2.2.2.2.2.2.2.2.2.2.2.2.2.1)) else (some ((1 : Int32), s_9.2.1, o_13.2.1, o_13.2.2, s_9.2.2.2.2.1, s_9.2.2.2.2.2.1, s_9.2.2.2.2.2.2.2.2.2.2.2.1, s_9.2.2.2.2.2.2.2.2.2.2.2.2.1, n, s_9.2.2.2.2.2.2.1, s_9.2.2.2.2.2.2.2.1, s_9.2.2.2.2.2.2.2.2.1, s_9.2.2.2.2.2.2.2.2.2.1, s_9.2.2.2.2.2.2.2.2.2.2.1, s_9.2.2.2.2.2.2.2.2.2.2.2.2.2.1, s_9.2.2.2.2.2.2.2.2.2.2.2.2.2.2.2.2.2.1, s_9.2.2.2.2.2.2.2.2.2.2.2.2.2.2.1, s_9.2.2.2.2.2.2.2.2.2.2.2.2.2.2.2.1, s_9.2.2.2.2.2.2.2.2.2.2.2.2.2.2.2.2.1, s_9.2.2.2.2.2.2.2.2.2.2.2.2.2.2.2.2.2.2.2.2.1, s_9.2.2.2.2.2.2.2.2.2.2.2.2.2.2.2.2.2.2.2.2.2.2.2.1, s_9.2.2.2.2.2.2.2.2.2.2.2.2.2.2.2.2.2.2.2.2.2.2.2.2, s_9.2.2.2.2.2.2.2.2.2.2.2.2.2.2.2.2.2.2.1, s_9.2.2.2.2.2.2.2.2.2.2.2.2.2.2.2.2.2.2.2.1, s_9.2.2.2.2.2.2.2.2.2.2.2.2.2.2.2.2.2.2.2.2.2.2.1, s_9.2.2.2.2.2.2.2.2.2.2.2.2.2.2.2.2.2.2.2.2.2.1))))) else (some ((1 : Int32), s_9.2.1, s_9.2.2.1, s_9.2.2.2.1, s_9.2.2.2.2.1, s_9.2.2.2.2.2.1, s_9.2.2.2.2.2.2.2.2.2.2.2.1, s_9.2.2.2.2.2.2.2.2.2.2.2.2.1, n, s_9.2.2.2.2.2.2.1, s_9.2.2.2.2.2.2.2.1, s_9.2.2.2.2.2.2.2.2.1, s_9.2.2.2.2.2.2.2.2.2.1, s_9.2.2.2.2.2.2.2.2.2.2.1, s_9.2.2.2.2.2.2.2.2.2.2.2.2.2.1, s_9.2.2.2.2.2.2.2.2.2.2.2.2.2.2.2.2.2.1, s_9.2.2.2.2.2.2.2.2.2.2.2.2.2.2.1, s_9.2.2.2.2.2.2.2.2.2.2.2.2.2.2.2.1, s_9.2.2.2.2.2.2.2.2.2.2.2.2.2.2.2.2.1, s_9.2.2.2.2.2.2.2.2.2.2.2.2.2.2.2.2.2.2.2.2.1, s_9.2.2.2.2.2.2.2.2.2.2.2.2.2.2.2.2.2.2.2.2.2.2.2.1, s_9.2.2.2.2.2.2.2.2.2.2.2.2.2.2.2.2.2.2.2.2.2.2.2.2, s_9.2.2.2.2.2.2.2.2.2.2.2.2.2.2.2.2.2.2.1, s_9.2.2.2.2.2.2.2.2.2.2.2.2.2.2.2.2.2.2.2.1, s_9.2.2.2.2.2.2.2.2.2.2.2.2.2.2.2.2.2.2.2.2.2.2.1, s_9.2.2.2.2.2.2.2.2.2.2.2.2.2.2.2.2.2.2.2.2.2.1)))) (fun j_11 => (zj (fun (s_18 : Unit) => (j_11 0)) (fun j_18 => (if s_9.2.2.2.2.1 ≤ 0 then (j_18 ()) else (if s_9.2.2.2.2.2.2.2.2.2.2.2.1 ≤ 0 then (j_18 ()) else (j_11 1)))))))) (fun j_10 => (if 40 < s_9.1 then (j_10 ()) else (if s_9.2.2.2.2.2.2.2.1 = 0 then (j_10 ()) else (zb (fn_X5_readStatement s_9.1 s_9.2.1 s_9.2.2.1 s_9.2.2.2.1 n s_9.2.2.2.2.2.2.1 s_9.2.2.2.2.2.2.2.1 s_9.2.2.2.2.2.2.2.2.1 s_9.2.2.2.2.2.2.2.2.2.1 s_9.2.2.2.2.2.2.2.2.2.2.1 s_9.2.2.2.2.1 s_9.2.2.2.2.2.1 s_9.2.2.2.2.2.2.2.2.2.2.2.1 s_9.2.2.2.2.2.2.2.2.2.2.2.2.1 f own s_9.2.2.2.2.2.2.2.2.2.2.2.2.2.1 s_9.2.2.2.2.2.2.2.2.2.2.2.2.2.2.2.2.2.1 s_9.2.2.2.2.2.2.2.2.2.2.2.2.2.2.1 s_9.2.2.2.2.2.2.2.2.2.2.2.2.2.2.2.1 s_9.2.2.2.2.2.2.2.2.2.2.2.2.2.2.2.2.1 s_9.2.2.2.2.2.2.2.2.2.2.2.2.2.2.2.2.2.2.2.2.1 s_9.2.2.2.2.2.2.2.2.2.2.2.2.2.2.2.2.2.2.2.2.2.2.2.1 s_9.2.2.2.2.2.2.2.2.2.2.2.2.2.2.2.2.2.2.2.2.2.2.2.2 s_9.2.2.2.2.2.2.2.2.2.2.2.2.2.2.2.2.2.2.1 s_9.2.2.2.2.2.2.2.2.2.2.2.2.2.2.2.2.2.2.2.1 s_9.2.2.2.2.2.2.2.2.2.2.2.2.2.2.2.2.2.2.2.2.2.2.1 s_9.2.2.2.2.2.2.2.2.2.2.2.2.2.2.2.2.2.2.2.2.2.1) (fun o_23 => (if o_23.1 = 0 then (some ((0 : Int32), o_23.2.1, o_23.2.2.1, o_23.2.2.2.1, o_23.2.2.2.2.2.2.2.2.2.1, o_23.2.2.2.2.2.2.2.2.2.2.1, o_23.2.2.2.2.2.2.2.2.2.2.2.1, o_23.2.2.2.2.2.2.2.2.2.2.2.2.1, n, o_23.2.2.2.2.1, o_23.2.2.2.2.2.1, o_23.2.2.2.2.2.2.1, o_23.2.2.2.2.2.2.2.1, o_23.2.2.2.2.2.2.2.2.1, o_23.2.2.2.2.2.2.2.2.2.2.2.2.2.1, o_23.2.2.2.2.2.2.2.2.2.2.2.2.2.2.1, o_23.2.2.2.2.2.2.2.2.2.2.2.2.2.2.2.1, o_23.2.2.2.2.2.2.2.2.2.2.2.2.2.2.2.2.1, o_23.2.2.2.2.2.2.2.2.2.2.2.2.2.2.2.2.2.1, o_23.2.2.2.2.2.2.2.2.2.2.2.2.2.2.2.2.2.2.1, o_23.2.2.2.2.2.2.2.2.2.2.2.2.2.2.2.2.2.2.2.1, o_23.2.2.2.2.2.2.2.2.2.2.2.2.2.2.2.2.2.2.2.2.1, o_23.2.2.2.2.2.2.2.2.2.2.2.2.2.2.2.2.2.2.2.2.2.1, o_23.2.2.2.2.2.2.2.2.2.2.2.2.2.2.2.2.2.2.2.2.2.2.1, o_23.2.2.2.2.2.2.2.2.2.2.2.2.2.2.2.2.2.2.2.2.2.2.2.1, o_23.2.2.2.2.2.2.2.2.2.2.2.2.2.2.2.2.2.2.2.2.2.2.2.2)) else (back_9 ((s_9.1 + 1), o_23.2.1, o_23.2.2.1, o_23.2.2.2.1, o_23.2.2.2.2.2.2.2.2.2.1, o_23.2.2.2.2.2.2.2.2.2.2.1, o_23.2.2.2.2.1, o_23.2.2.2.2.2.1, o_23.2.2.2.2.2.2.1, o_23.2.2.2.2.2.2.2.1, o_23.2.2.2.2.2.2.2.2.1, o_23.2.2.2.2.2.2.2.2.2.2.2.1, o_23.2.2.2.2.2.2.2.2.2.2.2.2.1, o_23.2.2.2.2.2.2.2.2.2.2.2.2.2.1, o_23.2.2.2.2.2.2.2.2.2.2.2.2.2.2.2.1, o_23.2.2.2.2.2.2.2.2.2.2.2.2.2.2.2.2.1, o_23.2.2.2.2.2.2.2.2.2.2.2.2.2.2.2.2.2.1, o_23.2.2.2.2.2.2.2.2.2.2.2.2.2.2.1, o_23.2.2.2.2.2.2.2.2.2.2.2.2.2.2.2.2.2.2.2.2.2.1, o_23.2.2.2.2.2.2.2.2.2.2.2.2.2.2.2.2.2.2.2.2.2.2.1, o_23.2.2.2.2.2.2.2.2.2.2.2.2.2.2.2.2.2.2.1, o_23.2.2.2.2.2.2.2.2.2.2.2.2.2.2.2.2.2.2.2.2.2.2.2.2, o_23.2.2.2.2.2.2.2.2.2.2.2.2.2.2.2.2.2.2.2.2.2.2.2.1, o_23.2.2.2.2.2.2.2.2.2.2.2.2.2.2.2.2.2.2.2.1, o_23.2.2.2.2.2.2.2.2.2.2.2.2.2.2.2.2.2.2.2.2.1)))))))))
set_option maxRecDepth 100000 in
noncomputable def zB12 (v0_1 : Int32) (v0_38 : Int32) (v0_58 : Int32) (v0_59 : Int32) (f4 : Nat → Int32) (f5 : Nat → Int32) (f19 : Nat → Int32) (f20 : Nat → Int32) (s_1 : Int32 × Int64 × Int32 × Int32 × Int32 × Int32 × (Nat → Int32) × (Nat → Int32) × (Nat → Int32) × (Nat → Int32) × (Nat → Int32) × (Nat → Int32) × (Nat → Int32) × (Nat → Int32) × (Nat → Int32) × (Nat → Int32) × (Nat → Int64) × (Nat → Int64) × (Nat → Int32) × (Nat → Int32) × (Nat → Int32) × (Nat → Int32)) (back_1 : (Int32 × Int64 × Int32 × Int32 × Int32 × Int32 × (Nat → Int32) × (Nat → Int32) × (Nat → Int32) × (Nat → Int32) × (Nat → Int32) × (Nat → Int32) × (Nat → Int32) × (Nat → Int32) × (Nat → Int32) × (Nat → Int32) × (Nat → Int64) × (Nat → Int64) × (Nat → Int32) × (Nat → Int32) × (Nat → Int32) × (Nat → Int32)) → Option (Int32 × Int32 × Int32 × Int64 × Int32 × Int32 × Int32 × Int32 × Int32 × Int32 × Int32 × Int32 × Int32 × Int32 × (Nat → Int32) × (Nat → Int32) × (Nat → Int32) × (Nat → Int32) × (Nat → Int32) × (Nat → Int32) × (Nat → Int32) × (Nat → Int32) × (Nat → Int32) × (Nat → Int32) × (Nat → Int32) × (Nat → Int32) × (Nat → Int32) × (Nat → Int32) × (Nat → Int64) × (Nat → Int64) × (Nat → Int32) × (Nat → Int32))) : Option (Int32 × Int32 × Int32 × Int64 × Int32 × Int32 × Int32 × Int32 × Int32 × Int32 × Int32 × Int32 × Int32 × Int32 × (Nat → Int32) × (Nat → Int32) × (Nat → Int32) × (Nat → Int32) × (Nat → Int32) × (Nat → Int32) × (Nat → Int32) × (Nat → Int32) × (Nat → Int32) × (Nat → Int32) × (Nat → Int32) × (Nat → Int32) × (Nat → Int32) × (Nat → Int32) × (Nat → Int64) × (Nat → Int64) × (Nat → Int32) × (Nat → Int32)) := (zb (fn_X12_goesWell s_1.2.2.2.2.1) (fun o_2 => (zj (fun (s_6 : Int32) => (zb (fn_X12_goesWell s_1.2.2.2.2.1) (fun o_7 => (zj (fun (s_11 : Int32 × Int32) => (if s_11.1 = 0 then (zb (fn_X12_copiesTask s_1.2.2.2.2.2.2.1 s_1.2.2.2.2.2.2.2.2.2.2.2.1 s_1.2.2.2.2.2.2.2.2.2.2.2.2.2.2.2.2.2.2.1 s_1.2.2.2.2.2.2.2.1 s_1.2.2.2.2.2.2.2.2.1 s_1.2.2.2.2.2.2.2.2.2.1 s_1.2.2.2.2.2.2.2.2.2.2.1 s_1.2.2.2.2.2.2.2.2.2.2.2.2.1 s_1.2.2.2.2.2.2.2.2.2.2.2.2.2.1 s_1.2.2.2.2.2.2.2.2.2.2.2.2.2.2.1 s_1.2.2.2.2.2.2.2.2.2.2.2.2.2.2.2.1 s_1.2.2.2.2.2.2.2.2.2.2.2.2.2.2.2.2.1 s_1.2.2.2.2.2.2.2.2.2.2.2.2.2.2.2.2.2.1 s_1.2.2.2.2.2.2.2.2.2.2.2.2.2.2.2.2.2.2.2.1 s_1.2.2.2.2.2.2.2.2.2.2.2.2.2.2.2.2.2.2.2.2.1 s_1.2.2.2.2.2.2.2.2.2.2.2.2.2.2.2.2.2.2.2.2.2) (fun o_13 => (zb (fn_X12_beginsChoice o_13.2.1 f19 o_13.2.2.2.2.2.2.2.2.2.2.2.2.2.1 o_13.2.2.2.2.2.2.2.2.2.2.2.2.2.2.2) (fun o_17 => (some ((o_13.2.1 (0 : Int32).toNatClampNeg), (0 : Int32), (0 : Int32), s_1.2.1, s_11.1, o_17.1, s_11.2, v0_1, ((-1) : Int32), ((-1) : Int32), s_6, s_1.2.2.2.1, s_11.1, s_11.2, o_13.1, o_13.2.1, o_13.2.2.1, o_13.2.2.2.1, o_13.2.2.2.2.2.2.2.1, o_13.2.2.2.2.1, o_13.2.2.2.2.2.1, o_13.2.2.2.2.2.2.1, o_13.2.2.2.2.2.2.2.2.2.2.2.2.2.2.1, o_13.2.2.2.2.2.2.2.2.1, o_13.2.2.2.2.2.2.2.2.2.1, o_13.2.2.2.2.2.2.2.2.2.2.1, o_13.2.2.2.2.2.2.2.2.2.2.2.2.2.1, o_13.2.2.2.2.2.2.2.2.2.2.2.2.2.2.2, o_13.2.2.2.2.2.2.2.2.2.2.2.1, o_13.2.2.2.2.2.2.2.2.2.2.2.2.1, o_17.2, f20)))))) else (zb (fn_X12_refuses 1 f20) (fun o_21 => (some (o_21.1, (0 : Int32), (0 : Int32), s_1.2.1, s_11.1, v0_38, s_11.2, v0_1, v0_58, v0_59, s_6, s_1.2.2.2.1, s_11.1, s_11.2, s_1.2.2.2.2.2.2.1, s_1.2.2.2.2.2.2.2.2.2.2.2.1, s_1.2.2.2.2.2.2.2.2.2.2.2.2.2.2.2.2.2.2.1, s_1.2.2.2.2.2.2.2.1, s_1.2.2.2.2.2.2.2.2.2.2.2.2.1, s_1.2.2.2.2.2.2.2.2.1, s_1.2.2.2.2.2.2.2.2.2.1, s_1.2.2.2.2.2.2.2.2.2.2.1, s_1.2.2.2.2.2.2.2.2.2.2.2.2.2.2.2.2.2.2.2.2.1, s_1.2.2.2.2.2.2.2.2.2.2.2.2.2.1, s_1.2.2.2.2.2.2.2.2.2.2.2.2.2.2.1, s_1.2.2.2.2.2.2.2.2.2.2.2.2.2.2.2.1, s_1.2.2.2.2.2.2.2.2.2.2.2.2.2.2.2.2.2.2.2.1, s_1.2.2.2.2.2.2.2.2.2.2.2.2.2.2.2.2.2.2.2.2.2, s_1.2.2.2.2.2.2.2.2.2.2.2.2.2.2.2.2.1, s_1.2.2.2.2.2.2.2.2.2.2.2.2.2.2.2.2.2.1, f19, o_21.2)))))) (fun j_11 => (if o_7 = 0 then (j_11 (s_1.2.2.2.2.1, s_1.2.2.2.2.2.1)) else (zj (fun (s_26 : Unit) => (zb (fn_X12_faults 4 v0_1 s_1.2.2.2.2.1 s_1.2.2.2.2.2.1) (fun o_27 => (j_11 (o_27.1, o_27.2))))) (fun j_26 => (if (s_1.2.2.2.2.2.2.1 (1 : Int32).toNatClampNeg) = 0 then (j_26 ()) else (if (s_1.2.2.2.2.2.2.2.2.2.2.2.1 (1 : Int32).toNatClampNeg) = 0 then (j_26 ()) else (j_11 (s_1.2.2.2.2.1, s_1.2.2.2.2.2.1)))))))))))) (fun j_6 => (if o_2 = 0 then (j_6 s_1.2.2.1) else (zb (fn_X12_here v0_1 s_1.2.2.1 f4) (fun o_34 => (if o_34.1 = (-1) then (j_6 o_34.2) else (zb (fn_X12_readsStatement s_1.1 v0_1 o_34.2 s_1.2.2.2.1 s_1.2.2.2.2.1 s_1.2.2.2.2.2.1 1 s_1.2.1 f4 f5 s_1.2.2.2.2.2.2.1 s_1.2.2.2.2.2.2.2.2.2.2.2.1 s_1.2.2.2.2.2.2.2.1 s_1.2.2.2.2.2.2.2.2.2.2.2.2.1 s_1.2.2.2.2.2.2.2.2.1 s_1.2.2.2.2.2.2.2.2.2.1 s_1.2.2.2.2.2.2.2.2.2.2.1 s_1.2.2.2.2.2.2.2.2.2.2.2.2.2.2.2.2.2.2.2.2.1 s_1.2.2.2.2.2.2.2.2.2.2.2.2.2.2.2.2.2.2.1 s_1.2.2.2.2.2.2.2.2.2.2.2.2.2.1 s_1.2.2.2.2.2.2.2.2.2.2.2.2.2.2.1 s_1.2.2.2.2.2.2.2.2.2.2.2.2.2.2.2.1 s_1.2.2.2.2.2.2.2.2.2.2.2.2.2.2.2.2.2.2.2.1 s_1.2.2.2.2.2.2.2.2.2.2.2.2.2.2.2.2.2.2.2.2.2 s_1.2.2.2.2.2.2.2.2.2.2.2.2.2.2.2.2.1 s_1.2.2.2.2.2.2.2.2.2.2.2.2.2.2.2.2.2.1) (fun o_39 => (back_1 ((s_1.1 + 1), o_39.1, o_39.2.1, o_39.2.2.1, o_39.2.2.2.1, o_39.2.2.2.2.1, o_39.2.2.2.2.2.1, o_39.2.2.2.2.2.2.2.1, o_39.2.2.2.2.2.2.2.2.2.1, o_39.2.2.2.2.2.2.2.2.2.2.1, o_39.2.2.2.2.2.2.2.2.2.2.2.1, o_39.2.2.2.2.2.2.1, o_39.2.2.2.2.2.2.2.2.1, o_39.2.2.2.2.2.2.2.2.2.2.2.2.2.2.1, o_39.2.2.2.2.2.2.2.2.2.2.2.2.2.2.2.1, o_39.2.2.2.2.2.2.2.2.2.2.2.2.2.2.2.2.1, o_39.2.2.2.2.2.2.2.2.2.2.2.2.2.2.2.2.2.2.2.1, o_39.2.2.2.2.2.2.2.2.2.2.2.2.2.2.2.2.2.2.2.2, o_39.2.2.2.2.2.2.2.2.2.2.2.2.2.1, o_39.2.2.2.2.2.2.2.2.2.2.2.2.2.2.2.2.2.1, o_39.2.2.2.2.2.2.2.2.2.2.2.2.1, o_39.2.2.2.2.2.2.2.2.2.2.2.2.2.2.2.2.2.2.1))))))))))))
theorem zHereT {n a e k s v o : Int32} {f g : Nat → Int32} (hn : n ≤ 1200) (ha : 0 ≤ a ∧ a ≤ n) (T : zTok n f g a e k s v o) : fn_X12_here n a g = some (zB n g s, s) := by
  obtain ⟨r, hr, h1, h2⟩ := zHere (g := g) hn ha
  have e1 := zSk_un h1 T.1
  obtain ⟨x, y⟩ := r
  dsimp only at h1 h2 e1
  rw [hr, h2, e1]
theorem zTok_0 {n a e k s v o : Int32} {f g : Nat → Int32} (ht : zTp f g) (ha : 0 ≤ a ∧ a ≤ n) (T : zTok n f g a e k s v o) : zB n g s = (-1) ↔ k = 0 := by
  have hb := zTok_b ha T
  have hk : k = 0 ↔ zK n g s = 0 := by
    obtain ⟨_, _, _, T⟩ := T
    rcases T with ⟨q1, _, q2, _⟩ | ⟨q1, _, q2, _⟩ | ⟨q1, _, _, q2, _⟩ | ⟨q1, _, _, _, q2, _⟩ | ⟨q1, _, _, q2, _⟩ | ⟨q1, _, _, _, q2, _⟩ <;> (first | ((try clear ht); (try clear hb); grind) | grind)
  rw [hk]
  have h1 := ht s.toNatClampNeg
  have h2 := zKd_c (g s.toNatClampNeg)
  unfold zB zK
  (first | ((try clear ht); (try clear hb); grind) | grind)
theorem zl_inv {σ ρ : Type} {B : σ → (σ → Option ρ) → Option ρ} {P : ρ → Prop} (hB : ∀ (s : σ) (back : σ → Option ρ) (o : ρ), (∀ t o, back t = some o → P o) → B s back = some o → P o) : ∀ (n : Nat) (s : σ) (o : ρ), zl B n s = some o → P o := by
  intro n
  induction n with
  | zero => intro s o h; exact (zl_0 h).elim
  | succ n ih => intro s o h; exact hB s (zl B n) o (fun t o ht => ih t o ht) (zl_s rfl h)
theorem zTS_0 {mF mN mNF mNN mS mM mC mW mCst mO m1 m2 mX mG : Nat → Int32} {mA mB : Nat → Int64} {nF nN stp mst prc al made amt op fx jn lets : Nat → Int32} : zTS 0 1 0 0 nF nN stp mst prc al made amt op fx jn lets (upd mF 1 0) (upd mN 1 0) mNF mNN mS mM mC mW (upd mCst 1 1) mO m1 m2 mX mG mA mB := by
  have no : ∀ i : Int32, 0 ≤ i → ¬ i < 0 := fun i h q => by (first | ((try clear no); grind) | grind)
  exact ⟨⟨rfl, by decide, by decide⟩, ⟨rfl, by decide, by decide⟩, ⟨rfl, by decide, by decide⟩, rfl, fun i h q => absurd q (no i h), fun i h q => absurd q (no i h), fun i h q => absurd q (no i h), fun i j h q => absurd q (no i h), fun i h q => absurd q (no i h)⟩
