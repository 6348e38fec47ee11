set_option maxHeartbeats 4000000 in
set_option maxRecDepth 100000 in
theorem sf_X12_isNumber (p1 : Int32) (f1 : Nat → Int32) (h_f1 : (∀ i : Nat, 0 ≤ f1 i ∧ f1 i ≤ 14)) : zw (fn_X12_isNumber p1 f1) (fun r => 0 ≤ r ∧ r ≤ 1 ∧ r ≤ (f1 (0 : Int32).toNatClampNeg) ∧ (¬ r = 0 → 0 ≤ p1 ∧ 1 ≤ r ∧ p1 ≤ 13 ∧ p1 < (f1 (0 : Int32).toNatClampNeg)) ∧ (r = 1 → 0 ≤ p1 ∧ p1 ≤ 13 ∧ 1 ≤ (f1 (0 : Int32).toNatClampNeg) ∧ p1 < (f1 (0 : Int32).toNatClampNeg)) ∧ (¬ r = 1 → r ≤ 0)) := by
  unfold fn_X12_isNumber
  refine zw_zb0 (sf_X12_isIn p1.toInt64 (0 : Int64) ((f1 (0 : Int32).toNatClampNeg).toInt64 - (1 : Int64))) (fun o_1 ho_1 => ?_)
  obtain ⟨ho_1_0, ho_1_1, ho_1_2, ho_1_3, ho_1_4⟩ := ho_1
  have hz1 := z64_ge0 p1
  have hz2 := z64_ltm p1 (f1 (0 : Int32).toNatClampNeg) (h_f1 _).1
  refine zw_some ?_
  first | exact True.intro | ((try dsimp only); (repeat' apply And.intro) <;> first | with_reducible assumption | first | lia | grind [zu_at, zu_atL, zvn])
