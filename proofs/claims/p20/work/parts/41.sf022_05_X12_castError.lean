set_option maxHeartbeats 4000000 in
set_option maxRecDepth 100000 in
theorem sf_X12_castError (p1 : Int32) (p2 : Int32) (f1 : Nat → Int32) (f2 : Nat → Int32) (f3 : Nat → Int32) (f4 : Nat → Int32) (f5 : Nat → Int64) (f6 : Nat → Int64) (f7 : Nat → Int64) (h_p1 : 0 ≤ p1 ∧ p1 ≤ 13) (h_p2 : 0 ≤ p2 ∧ p2 ≤ 1) (h_f1 : (∀ i : Nat, 0 ≤ f1 i ∧ f1 i ≤ 3)) (h_f3 : (∀ i : Nat, (-1) ≤ f3 i ∧ f3 i ≤ 13)) (h_f4 : (∀ i : Nat, (-1) ≤ f4 i ∧ f4 i ≤ 13)) (hx_0 : (∀ i : Nat, 1 ≤ f2 (f1 i).toNatClampNeg)) : zw (fn_X12_castError p1 p2 f1 f2 f3 f4 f5 f6 f7) (fun r => True) := by
  unfold fn_X12_castError
  refine zw_zg32 14 (by decide) (by (try dsimp only); first | lia | grind [zu_at, zu_atL, zvn, z64_r]) ?_
  refine zw_zg32 8 (by decide) (by (try dsimp only); first | lia | grind [zu_at, zu_atL, zvn, z64_r]) ?_
  refine zw_zj (fun s_3 => (-1) ≤ s_3 ∧ s_3 ≤ 13) (fun s_3 Hj_3 => ?_) (fun j_3 hj_3 => ?_)
  · obtain ⟨Hj_3_0, Hj_3_1⟩ := Hj_3
    refine zw_if (fun c1 => ?_) (fun c1 => ?_)
    · refine zw_zj (fun s_11 => True) (fun s_11 Hj_11 => ?_) (fun j_11 hj_11 => ?_)
      · refine zw_zd (by (try dsimp only); first | lia | grind [zu_at, zu_atL, zvn, z64_r]) ?_
        refine zw_zn (fun x_13 ex_13 => ?_)
        refine zw_ifc (lg_cmp_eq _ _) (fun c2 => ?_) (fun c2 => ?_)
        · refine zw_some ?_
          first | exact True.intro | ((try dsimp only); (repeat' apply And.intro) <;> first | with_reducible assumption | first | lia | grind [zu_at, zu_atL, zvn, z64_r])
        refine zw_some ?_
        first | exact True.intro | ((try dsimp only); (repeat' apply And.intro) <;> first | with_reducible assumption | first | lia | grind [zu_at, zu_atL, zvn, z64_r])
      refine zw_if (fun c3 => ?_) (fun c3 => ?_)
      · refine zw_zg32 28 (by decide) (by (try dsimp only); first | lia | grind [zu_at, zu_atL, zvn, z64_r]) ?_
        exact hj_11 _ (by first | exact True.intro | ((try dsimp only); (repeat' apply And.intro) <;> first | with_reducible assumption | first | lia | grind [zu_at, zu_atL, zvn, z64_r]))
      refine zw_zg32 28 (by decide) (by (try dsimp only); first | lia | grind [zu_at, zu_atL, zvn, z64_r]) ?_
      exact hj_11 _ (by first | exact True.intro | ((try dsimp only); (repeat' apply And.intro) <;> first | with_reducible assumption | first | lia | grind [zu_at, zu_atL, zvn, z64_r]))
    refine zw_zg32 14 (by decide) (by (try dsimp only); first | lia | grind [zu_at, zu_atL, zvn, z64_r]) ?_
    refine zw_zg32 8 (by decide) (by (try dsimp only); first | lia | grind [zu_at, zu_atL, zvn, z64_r]) ?_
    refine zw_zd (by (try dsimp only); first | lia | grind [zu_at, zu_atL, zvn, z64_r]) ?_
    refine zw_zn (fun x_8 ex_8 => ?_)
    refine zw_ifc (lg_cmp_eq _ _) (fun c4 => ?_) (fun c4 => ?_)
    · refine zw_some ?_
      first | exact True.intro | ((try dsimp only); (repeat' apply And.intro) <;> first | with_reducible assumption | first | lia | grind [zu_at, zu_atL, zvn, z64_r])
    refine zw_zn (fun x_10 ex_10 => ?_)
    refine zw_some ?_
    first | exact True.intro | ((try dsimp only); (repeat' apply And.intro) <;> first | with_reducible assumption | first | lia | grind [zu_at, zu_atL, zvn, z64_r])
  refine zw_if (fun c5 => ?_) (fun c5 => ?_)
  · refine zw_zg32 28 (by decide) (by (try dsimp only); first | lia | grind [zu_at, zu_atL, zvn, z64_r]) ?_
    exact hj_3 _ (by first | exact True.intro | ((try dsimp only); (repeat' apply And.intro) <;> first | with_reducible assumption | first | lia | grind [zu_at, zu_atL, zvn, z64_r]))
  refine zw_zg32 28 (by decide) (by (try dsimp only); first | lia | grind [zu_at, zu_atL, zvn, z64_r]) ?_
  exact hj_3 _ (by first | exact True.intro | ((try dsimp only); (repeat' apply And.intro) <;> first | with_reducible assumption | first | lia | grind [zu_at, zu_atL, zvn, z64_r]))
