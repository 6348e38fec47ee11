set_option maxHeartbeats 4000000 in
set_option maxRecDepth 100000 in
theorem sf_X12_canSearch (v0_38 : Int32) (f1 : Nat → Int32) (f2 : Nat → Int32) (f3 : Nat → Int32) (f4 : Nat → Int32) (h_v0_38 : 0 ≤ v0_38 ∧ v0_38 ≤ 1) (h_f1 : (∀ i : Nat, 0 ≤ f1 i ∧ f1 i ≤ 14)) (h_f2 : (∀ i : Nat, 0 ≤ f2 i ∧ f2 i ≤ 13)) (h_f3 : (∀ i : Nat, (-1) ≤ f3 i ∧ f3 i ≤ 3)) (h_f4 : (∀ i : Nat, 0 ≤ f4 i ∧ f4 i ≤ 13)) : zw (fn_X12_canSearch v0_38 f1 f2 f3 f4) (fun r => 0 ≤ r.1 ∧ r.1 ≤ 1 ∧ 0 ≤ r.2.1 ∧ r.2.1 ≤ 14 ∧ (∀ i : Nat, 0 ≤ r.2.2.2 i ∧ r.2.2.2 i ≤ 13) ∧ (-1) ≤ r.2.2.1 ∧ r.2.2.1 ≤ (-1) ∧ r.1 ≤ v0_38 ∧ r.1 ≤ (f1 (0 : Int32).toNatClampNeg) ∧ (r.1 = 0 → r.1 ≤ r.2.1 ∧ r.1 ≤ r.2.2.1 + 1) ∧ (¬ r.1 = 0 → 1 ≤ r.1 ∧ r.2.1 ≤ 5) ∧ (r.1 = 1 → r.2.1 ≤ 5 ∧ 1 ≤ v0_38 ∧ v0_38 ≤ r.1) ∧ (¬ r.1 = 1 → r.1 ≤ 0)) := by
  unfold fn_X12_canSearch
  refine zw_zb0 (sf_X12_laysFree f1 f2 f3 f4 (by first | with_reducible assumption | exact ⟨by with_reducible assumption, by with_reducible assumption⟩ | first | lia | grind [zu_at, zu_atL, zvn]) (by first | with_reducible assumption | exact ⟨by with_reducible assumption, by with_reducible assumption⟩ | first | lia | grind [zu_at, zu_atL, zvn]) (by first | with_reducible assumption | exact ⟨by with_reducible assumption, by with_reducible assumption⟩ | first | lia | grind [zu_at, zu_atL, zvn]) (by first | with_reducible assumption | exact ⟨by with_reducible assumption, by with_reducible assumption⟩ | first | lia | grind [zu_at, zu_atL, zvn])) (fun o_1 ho_1 => ?_)
  obtain ⟨o_1_0, o_1_1⟩ := o_1
  try dsimp only at ho_1
  obtain ⟨ho_1_0, ho_1_1, ho_1_2⟩ := ho_1
  refine zw_if (fun c1 => ?_) (fun c1 => ?_)
  · refine zw_some ?_
    first | exact True.intro | ((try dsimp only); (repeat' apply And.intro) <;> first | with_reducible assumption | first | lia | grind [zu_at, zu_atL, zvn])
  refine zw_if (fun c2 => ?_) (fun c2 => ?_)
  · refine zw_some ?_
    first | exact True.intro | ((try dsimp only); (repeat' apply And.intro) <;> first | with_reducible assumption | first | lia | grind [zu_at, zu_atL, zvn])
  refine zw_if (fun c3 => ?_) (fun c3 => ?_)
  · refine zw_some ?_
    first | exact True.intro | ((try dsimp only); (repeat' apply And.intro) <;> first | with_reducible assumption | first | lia | grind [zu_at, zu_atL, zvn])
  refine zw_some ?_
  first | exact True.intro | ((try dsimp only); (repeat' apply And.intro) <;> first | with_reducible assumption | first | lia | grind [zu_at, zu_atL, zvn])
