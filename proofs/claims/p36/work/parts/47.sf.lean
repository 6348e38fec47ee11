set_option maxHeartbeats 1000000 in
theorem sf_X12_exactOf (p1 : Int32) (p2 : Int32) (f1 : Nat → Int32) (f2 : Nat → Int32) (f3 : Nat → Int64) (f4 : Nat → Int64) (f5 : Nat → Int64) (h_p1 : 0 ≤ p1 ∧ p1 ≤ 13) (h_p2 : 0 ≤ p2 ∧ p2 ≤ 1) (h_f1 : (∀ i : Nat, (-1) ≤ f1 i ∧ f1 i ≤ 13)) (h_f2 : (∀ i : Nat, (-1) ≤ f2 i ∧ f2 i ≤ 13)) : zw (fn_X12_exactOf p1 p2 f1 f2 f3 f4 f5) (fun r => True) := by
  unfold fn_X12_exactOf
  refine zw_zj (fun s_1 => (-1) ≤ s_1 ∧ s_1 ≤ 13) (fun s_1 Hj_1 => ?_) (fun j_1 hj_1 => ?_)
  · refine zw_if (fun c1 => ?_) (fun c1 => ?_)
    · refine zw_if (fun c2 => ?_) (fun c2 => ?_)
      · refine zw_zg32 28 (by decide) (by grind [zu_at, zu_atL]) ?_
        refine zw_some ?_
        first | trivial | (try dsimp only); grind [zu_at, zu_atL]
      refine zw_zg32 28 (by decide) (by grind [zu_at, zu_atL]) ?_
      refine zw_some ?_
      first | trivial | (try dsimp only); grind [zu_at, zu_atL]
    refine zw_zg32 14 (by decide) (by grind [zu_at, zu_atL]) ?_
    refine zw_some ?_
    first | trivial | (try dsimp only); grind [zu_at, zu_atL]
  refine zw_if (fun c3 => ?_) (fun c3 => ?_)
  · refine zw_zg32 28 (by decide) (by grind [zu_at, zu_atL]) ?_
    exact hj_1 _ (by grind [zu_at, zu_atL])
  refine zw_zg32 28 (by decide) (by grind [zu_at, zu_atL]) ?_
  exact hj_1 _ (by grind [zu_at, zu_atL])
set_option maxHeartbeats 1000000 in
theorem sf_X12_castOf (p1 : Int32) (p2 : Int32) (f1 : Nat → Int32) (f2 : Nat → Int32) (f3 : Nat → Int64) (f4 : Nat → Int64) (f5 : Nat → Int64) (f6 : Nat → Int32) (f7 : Nat → Int32) (h_p1 : 0 ≤ p1 ∧ p1 ≤ 13) (h_p2 : 0 ≤ p2 ∧ p2 ≤ 1) (h_f1 : (∀ i : Nat, (-1) ≤ f1 i ∧ f1 i ≤ 13)) (h_f2 : (∀ i : Nat, (-1) ≤ f2 i ∧ f2 i ≤ 13)) (h_f6 : (∀ i : Nat, 0 ≤ f6 i ∧ f6 i ≤ 3)) (hx_0 : (∀ i : Nat, 1 ≤ f7 (f6 i).toNatClampNeg)) : zw (fn_X12_castOf p1 p2 f1 f2 f3 f4 f5 f6 f7) (fun r => True) := by
  unfold fn_X12_castOf
  refine zw_zj (fun s_1 => (-1) ≤ s_1 ∧ s_1 ≤ 13) (fun s_1 Hj_1 => ?_) (fun j_1 hj_1 => ?_)
  · refine zw_zj (fun s_2 => True) (fun s_2 Hj_2 => ?_) (fun j_2 hj_2 => ?_)
    · refine zw_zg32 14 (by decide) (by grind [zu_at, zu_atL]) ?_
      refine zw_zg32 8 (by decide) (by grind [zu_at, zu_atL]) ?_
      refine zw_zb0 (sf_X12_rounded s_2 ((f7 (f6 p1.toNatClampNeg).toNatClampNeg).toInt64)) (fun o_5 ho_5 => ?_)
      refine zw_some ?_
      first | trivial | (try dsimp only); grind [zu_at, zu_atL]
    refine zw_if (fun c1 => ?_) (fun c1 => ?_)
    · refine zw_if (fun c2 => ?_) (fun c2 => ?_)
      · refine zw_zg32 28 (by decide) (by grind [zu_at, zu_atL]) ?_
        exact hj_2 _ (by grind [zu_at, zu_atL])
      refine zw_zg32 28 (by decide) (by grind [zu_at, zu_atL]) ?_
      exact hj_2 _ (by grind [zu_at, zu_atL])
    refine zw_zg32 14 (by decide) (by grind [zu_at, zu_atL]) ?_
    exact hj_2 _ (by grind [zu_at, zu_atL])
  refine zw_if (fun c3 => ?_) (fun c3 => ?_)
  · refine zw_zg32 28 (by decide) (by grind [zu_at, zu_atL]) ?_
    exact hj_1 _ (by grind [zu_at, zu_atL])
  refine zw_zg32 28 (by decide) (by grind [zu_at, zu_atL]) ?_
  exact hj_1 _ (by grind [zu_at, zu_atL])
set_option maxHeartbeats 1000000 in
theorem sf_X12_triesOnce (v0_64 : Int32) (f1 : Nat → Int32) (f2 : Nat → Int32) (f3 : Nat → Int32) (f4 : Nat → Int32) (f5 : Nat → Int32) (f6 : Nat → Int32) (f7 : Nat → Int64) (f8 : Nat → Int64) (f9 : Nat → Int64) (f10 : Nat → Int64) (h_f1 : (∀ i : Nat, 0 ≤ f1 i ∧ f1 i ≤ 14)) (h_f2 : (∀ i : Nat, 0 ≤ f2 i ∧ f2 i ≤ 3)) (h_f5 : (∀ i : Nat, (-1) ≤ f5 i ∧ f5 i ≤ 13)) (h_f6 : (∀ i : Nat, (-1) ≤ f6 i ∧ f6 i ≤ 13)) (hx_0 : (∀ i : Nat, 1 ≤ f3 (f2 i).toNatClampNeg)) : zw (fn_X12_triesOnce v0_64 f1 f2 f3 f4 f5 f6 f7 f8 f9 f10) (fun r => True) := by
  unfold fn_X12_triesOnce
  refine zw_zl32 (fun s_1 => 0 ≤ s_1.1 ∧ s_1.1 ≤ 14) (fun s_1 => 14 - s_1.1) (by (try dsimp only); grind [zu_at, zu_atL]) (by (try dsimp only); grind [zu_at, zu_atL]) (fun s_1 back_1 Hback_1 hback_1 => ?_)
  refine zw_if (fun c1 => ?_) (fun c1 => ?_)
  · refine zw_some ?_
    first | trivial | (try dsimp only); grind [zu_at, zu_atL]
  refine zw_zg32 14 (by decide) (by grind [zu_at, zu_atL]) ?_
  refine zw_zg32 8 (by decide) (by grind [zu_at, zu_atL]) ?_
  refine zw_zg32 28 (by decide) (by grind [zu_at, zu_atL]) ?_
  refine zw_if (fun c2 => ?_) (fun c2 => ?_)
  · refine zw_zb0 (sf_X12_draw (((f9 s_1.1.toNatClampNeg) - (f8 s_1.1.toNatClampNeg)) + (1 : Int64)) s_1.2.1) (fun o_31 ho_31 => ?_)
    refine zw_zn (fun g_35 eg_35 => ?_)
    refine zw_zb0 (sf_X12_rounded (g_35 s_1.1.toNatClampNeg) ((f3 (f2 s_1.1.toNatClampNeg).toNatClampNeg).toInt64)) (fun o_36 ho_36 => ?_)
    exact hback_1 _ (by grind [zu_at, zu_atL]) (by grind [zu_at, zu_atL]) (by grind [zu_at, zu_atL])
  refine zw_zb0 (sf_X12_exactOf s_1.1 0 f5 f6 s_1.2.2.1 f8 f9 (by grind [zu_at, zu_atL]) (by grind [zu_at, zu_atL]) (by grind [zu_at, zu_atL]) (by grind [zu_at, zu_atL])) (fun o_7 ho_7 => ?_)
  refine zw_zb0 (sf_X12_exactOf s_1.1 1 f5 f6 s_1.2.2.1 f8 f9 (by grind [zu_at, zu_atL]) (by grind [zu_at, zu_atL]) (by grind [zu_at, zu_atL]) (by grind [zu_at, zu_atL])) (fun o_11 ho_11 => ?_)
  refine zw_zb0 (sf_X12_two (f4 s_1.1.toNatClampNeg) o_7 o_11 (1 : Int64)) (fun o_15 ho_15 => ?_)
  refine zw_zb0 (sf_X12_castOf s_1.1 0 f5 f6 s_1.2.2.2 f8 f9 f2 f3 (by grind [zu_at, zu_atL]) (by grind [zu_at, zu_atL]) (by grind [zu_at, zu_atL]) (by grind [zu_at, zu_atL]) (by grind [zu_at, zu_atL]) (by grind [zu_at, zu_atL])) (fun o_19 ho_19 => ?_)
  refine zw_zb0 (sf_X12_castOf s_1.1 1 f5 f6 s_1.2.2.2 f8 f9 f2 f3 (by grind [zu_at, zu_atL]) (by grind [zu_at, zu_atL]) (by grind [zu_at, zu_atL]) (by grind [zu_at, zu_atL]) (by grind [zu_at, zu_atL]) (by grind [zu_at, zu_atL])) (fun o_23 ho_23 => ?_)
  refine zw_zb0 (sf_X12_two (f4 s_1.1.toNatClampNeg) o_19 o_23 ((f3 (f2 s_1.1.toNatClampNeg).toNatClampNeg).toInt64)) (fun o_27 ho_27 => ?_)
  exact hback_1 _ (by grind [zu_at, zu_atL]) (by grind [zu_at, zu_atL]) (by grind [zu_at, zu_atL])
set_option maxHeartbeats 1000000 in
theorem sf_X12_trials (p1 : Int32) (p2 : Int32) (v0_33 : Int32) (w0_34 : Int64) (v0_38 : Int32) (v0_41 : Int32) (v0_42 : Int32) (v0_64 : Int32) (f1 : Nat → Int32) (f2 : Nat → Int32) (f3 : Nat → Int32) (f4 : Nat → Int32) (f5 : Nat → Int32) (f6 : Nat → Int32) (f7 : Nat → Int32) (f8 : Nat → Int64) (f9 : Nat → Int64) (f10 : Nat → Int64) (f11 : Nat → Int64) (f12 : Nat → Int32) (f13 : Nat → Int64) (f14 : Nat → Int32) (f15 : Nat → Int32) (f16 : Nat → Int64) (f17 : Nat → Int64) (h_v0_38 : 0 ≤ v0_38 ∧ v0_38 ≤ 1) (h_f2 : (∀ i : Nat, 0 ≤ f2 i ∧ f2 i ≤ 14)) (h_f3 : (∀ i : Nat, 0 ≤ f3 i ∧ f3 i ≤ 3)) (h_f4 : (∀ i : Nat, 0 ≤ f4 i ∧ f4 i ≤ 3)) (h_f6 : (∀ i : Nat, (-1) ≤ f6 i ∧ f6 i ≤ 13)) (h_f7 : (∀ i : Nat, (-1) ≤ f7 i ∧ f7 i ≤ 13)) (hx_0 : f2 (0 : Int32).toNatClampNeg ≤ 0 ∨ (∀ i : Nat, 1 ≤ f12 (f3 i).toNatClampNeg) ∧ (∀ i : Nat, 1 ≤ f12 (f4 i).toNatClampNeg)) : zw (fn_X12_trials p1 p2 v0_33 w0_34 v0_38 v0_41 v0_42 v0_64 f1 f2 f3 f4 f5 f6 f7 f8 f9 f10 f11 f12 f13 f14 f15 f16 f17) (fun r => (∀ i : Nat, 0 ≤ r.2.2.2.2.2.2.1 i ∧ r.2.2.2.2.2.2.1 i ≤ 3) ∧ (-1) ≤ r.1 ∧ (r.1 = (-1) → r.2.2.2.2.1 ≤ v0_64 ∧ v0_64 ≤ r.2.2.2.2.1) ∧ (¬ r.1 = (-1) → (f2 (0 : Int32).toNatClampNeg) ≤ 14 ∧ (f2 (0 : Int32).toNatClampNeg) ≤ r.2.1 + 15 ∧ (f2 (0 : Int32).toNatClampNeg) ≤ r.2.2.2.1 + 14 ∧ (f2 (0 : Int32).toNatClampNeg) ≤ v0_38 + 13 ∧ 1 ≤ p1 ∧ 0 ≤ p2 ∧ 0 ≤ r.1 ∧ (-1) ≤ r.2.1 ∧ (-2) ≤ r.2.2.1 ∧ 0 ≤ r.2.2.2.1 ∧ 1 ≤ v0_38 ∧ p1 ≤ 40 ∧ p2 < (f2 (0 : Int32).toNatClampNeg) ∧ r.2.1 ≤ (-1) ∧ r.2.1 + 2 ≤ p1 ∧ r.2.1 < p2 ∧ r.2.1 ≤ r.2.2.1 + 1 ∧ r.2.1 < r.2.2.2.1 ∧ r.2.1 + 2 ≤ v0_38 ∧ r.2.2.1 ≤ 12 ∧ r.2.2.1 ≤ r.2.1 + 13 ∧ r.2.2.1 ≤ r.2.2.2.1 + 12 ∧ r.2.2.1 ≤ v0_38 + 11 ∧ r.2.2.2.1 ≤ 0 ∧ r.2.2.2.1 < p1 ∧ r.2.2.2.1 ≤ p2 ∧ r.2.2.2.1 ≤ r.2.1 + 1 ∧ r.2.2.2.1 ≤ r.2.2.1 + 2 ∧ r.2.2.2.1 < v0_38 ∧ v0_38 ≤ p1 ∧ v0_38 ≤ p2 + 1 ∧ v0_38 ≤ r.2.1 + 2 ∧ v0_38 ≤ r.2.2.1 + 3 ∧ v0_38 ≤ r.2.2.2.1 + 1) ∧ (∀ i : Nat, r.2.2.2.2.2.2.1 i = f3 i ∨ r.2.2.2.2.2.2.1 i = f4 i)) := by
  unfold fn_X12_trials
  refine zw_zb0 (sf_X12_isIn p1.toInt64 (1 : Int64) (40 : Int64)) (fun o_1 ho_1 => ?_)
  refine zw_if (fun c1 => ?_) (fun c1 => ?_)
  · refine zw_zb0 (sf_X12_refuses 4 f1 (by grind [zu_at, zu_atL])) (fun o_6 ho_6 => ?_)
    refine zw_some ?_
    first | trivial | (try dsimp only); grind [zu_at, zu_atL]
  refine zw_zb0 (sf_X12_isNumber p2 f2 (by grind [zu_at, zu_atL])) (fun o_10 ho_10 => ?_)
  refine zw_if (fun c2 => ?_) (fun c2 => ?_)
  · refine zw_zb0 (sf_X12_refuses 4 f1 (by grind [zu_at, zu_atL])) (fun o_15 ho_15 => ?_)
    refine zw_some ?_
    first | trivial | (try dsimp only); grind [zu_at, zu_atL]
  refine zw_zb0 (sf_X12_handPasses w0_34 v0_38 v0_41 v0_42 f2 f3 f4 f5 f6 f7 f8 f9 f10 f11 f12 f13 f14 f15 (by grind [zu_at, zu_atL]) (by grind [zu_at, zu_atL]) (by grind [zu_at, zu_atL]) (by grind [zu_at, zu_atL]) (by grind [zu_at, zu_atL]) (by grind [zu_at, zu_atL]) (by grind [zu_at, zu_atL])) (fun o_19 ho_19 => ?_)
  refine zw_if (fun c3 => ?_) (fun c3 => ?_)
  · refine zw_zb0 (sf_X12_refuses 4 f1 (by grind [zu_at, zu_atL])) (fun o_39 ho_39 => ?_)
    refine zw_some ?_
    first | trivial | (try dsimp only); grind [zu_at, zu_atL]
  refine zw_zl32 (fun s_24 => 0 ≤ s_24.1 ∧ 0 ≤ s_24.2.1 ∧ o_1 ≤ s_24.2.1 + 1 ∧ o_10 ≤ s_24.2.1 + 1 ∧ o_19.1 ≤ s_24.2.1 + 1 ∧ o_19.2.1 < s_24.2.1 ∧ o_19.2.2.2.1 ≤ s_24.2.1 ∧ s_24.2.1 ≤ p1 ∧ v0_38 ≤ s_24.2.1 + 1) (fun s_24 => 40 - s_24.2.1) (by (try dsimp only); grind [zu_at, zu_atL]) (by (try dsimp only); grind [zu_at, zu_atL]) (fun s_24 back_24 Hback_24 hback_24 => ?_)
  refine zw_if (fun c4 => ?_) (fun c4 => ?_)
  · refine zw_some ?_
    first | trivial | (try dsimp only); grind [zu_at, zu_atL]
  refine zw_zb0 (sf_X12_triesOnce s_24.2.2.1 f2 f3 f12 f5 f6 f7 s_24.2.2.2.1 f9 f10 s_24.2.2.2.2 (by grind [zu_at, zu_atL]) (by grind [zu_at, zu_atL]) (by grind [zu_at, zu_atL]) (by grind [zu_at, zu_atL]) (by grind [zu_at, zu_atL])) (fun o_26 ho_26 => ?_)
  refine zw_zg32 14 (by decide) (by grind [zu_at, zu_atL]) ?_
  refine zw_zb0 (sf_X12_amount ((o_26.2.2 p2.toNatClampNeg) - (o_26.2.1 p2.toNatClampNeg))) (fun o_31 ho_31 => ?_)
  refine zw_zb0 (sf_X12_greater s_24.1 o_31) (fun o_35 ho_35 => ?_)
  exact hback_24 _ (by grind [zu_at, zu_atL]) (by grind [zu_at, zu_atL]) (by grind [zu_at, zu_atL])
set_option maxHeartbeats 1000000 in
theorem sf_X12_trial (p1 : Int32) (p2 : Int32) (v0_33 : Int32) (w0_34 : Int64) (v0_38 : Int32) (v0_41 : Int32) (v0_42 : Int32) (v0_64 : Int32) (f1 : Nat → Int32) (f2 : Nat → Int32) (f3 : Nat → Int32) (f4 : Nat → Int32) (f5 : Nat → Int32) (f6 : Nat → Int32) (f7 : Nat → Int64) (f8 : Nat → Int64) (f9 : Nat → Int64) (f10 : Nat → Int64) (f11 : Nat → Int32) (f12 : Nat → Int64) (f13 : Nat → Int32) (f14 : Nat → Int32) (f15 : Nat → Int64) (f16 : Nat → Int64) (h_p2 : 0 ≤ p2 ∧ p2 ≤ 1) (h_v0_38 : 0 ≤ v0_38 ∧ v0_38 ≤ 1) (h_f1 : (∀ i : Nat, 0 ≤ f1 i ∧ f1 i ≤ 14)) (h_f2 : (∀ i : Nat, 0 ≤ f2 i ∧ f2 i ≤ 3)) (h_f3 : (∀ i : Nat, 0 ≤ f3 i ∧ f3 i ≤ 3)) (h_f5 : (∀ i : Nat, (-1) ≤ f5 i ∧ f5 i ≤ 13)) (h_f6 : (∀ i : Nat, (-1) ≤ f6 i ∧ f6 i ≤ 13)) (hx_0 : f1 (0 : Int32).toNatClampNeg ≤ 0 ∨ (∀ i : Nat, 1 ≤ f11 (f2 i).toNatClampNeg) ∧ (∀ i : Nat, 1 ≤ f11 (f3 i).toNatClampNeg)) : zw (fn_X12_trial p1 p2 v0_33 w0_34 v0_38 v0_41 v0_42 v0_64 f1 f2 f3 f4 f5 f6 f7 f8 f9 f10 f11 f12 f13 f14 f15 f16) (fun r => (∀ i : Nat, 0 ≤ r.2.2.2.2.2.1 i ∧ r.2.2.2.2.2.1 i ≤ 3) ∧ r.2.2.2.2.1 ≤ v0_64 ∧ v0_64 ≤ r.2.2.2.2.1 ∧ (¬ r.1 = (-1000000000000000) → (f1 (0 : Int32).toNatClampNeg) ≤ r.2.1 + 15 ∧ (f1 (0 : Int32).toNatClampNeg) ≤ r.2.2.2.1 + 14 ∧ (f1 (0 : Int32).toNatClampNeg) ≤ v0_38 + 13 ∧ 0 ≤ p1 ∧ (-1) ≤ r.2.1 ∧ (-2) ≤ r.2.2.1 ∧ 0 ≤ r.2.2.2.1 ∧ 1 ≤ v0_38 ∧ p1 < (f1 (0 : Int32).toNatClampNeg) ∧ p2 ≤ r.2.1 + 2 ∧ p2 ≤ r.2.2.2.1 + 1 ∧ p2 ≤ v0_38 ∧ r.2.1 ≤ (-1) ∧ r.2.1 < p1 ∧ r.2.1 < p2 ∧ r.2.1 ≤ r.2.2.1 + 1 ∧ r.2.1 < r.2.2.2.1 ∧ r.2.1 + 2 ≤ v0_38 ∧ r.2.2.1 ≤ 12 ∧ r.2.2.1 ≤ r.2.1 + 13 ∧ r.2.2.1 ≤ r.2.2.2.1 + 12 ∧ r.2.2.1 ≤ v0_38 + 11 ∧ r.2.2.2.1 ≤ 0 ∧ r.2.2.2.1 ≤ p1 ∧ r.2.2.2.1 ≤ p2 ∧ r.2.2.2.1 ≤ r.2.1 + 1 ∧ r.2.2.2.1 ≤ r.2.2.1 + 2 ∧ r.2.2.2.1 < v0_38 ∧ v0_38 ≤ p1 + 1 ∧ v0_38 ≤ r.2.1 + 2 ∧ v0_38 ≤ r.2.2.1 + 3 ∧ v0_38 ≤ r.2.2.2.1 + 1) ∧ (∀ i : Nat, r.2.2.2.2.2.1 i = f2 i ∨ r.2.2.2.2.2.1 i = f3 i)) := by
  unfold fn_X12_trial
  refine zw_zb0 (sf_X12_isNumber p1 f1 (by grind [zu_at, zu_atL])) (fun o_1 ho_1 => ?_)
  refine zw_if (fun c1 => ?_) (fun c1 => ?_)
  · refine zw_some ?_
    first | trivial | (try dsimp only); grind [zu_at, zu_atL]
  refine zw_zb0 (sf_X12_handPasses w0_34 v0_38 v0_41 v0_42 f1 f2 f3 f4 f5 f6 f7 f8 f9 f10 f11 f12 f13 f14 (by grind [zu_at, zu_atL]) (by grind [zu_at, zu_atL]) (by grind [zu_at, zu_atL]) (by grind [zu_at, zu_atL]) (by grind [zu_at, zu_atL]) (by grind [zu_at, zu_atL]) (by grind [zu_at, zu_atL])) (fun o_6 ho_6 => ?_)
  refine zw_if (fun c2 => ?_) (fun c2 => ?_)
  · refine zw_some ?_
    first | trivial | (try dsimp only); grind [zu_at, zu_atL]
  refine zw_zb0 (sf_X12_triesOnce v0_64 f1 f2 f11 f4 f5 f6 f15 f8 f9 f16 (by grind [zu_at, zu_atL]) (by grind [zu_at, zu_atL]) (by grind [zu_at, zu_atL]) (by grind [zu_at, zu_atL]) (by grind [zu_at, zu_atL])) (fun o_11 ho_11 => ?_)
  refine zw_if (fun c3 => ?_) (fun c3 => ?_)
  · refine zw_zg32 14 (by decide) (by grind [zu_at, zu_atL]) ?_
    refine zw_some ?_
    first | trivial | (try dsimp only); grind [zu_at, zu_atL]
  refine zw_zg32 14 (by decide) (by grind [zu_at, zu_atL]) ?_
  refine zw_some ?_
  first | trivial | (try dsimp only); grind [zu_at, zu_atL]
set_option maxHeartbeats 1000000 in
theorem sf_X12_seed (p1 : Int32) (v0_64 : Int32) (f1 : Nat → Int32) : zw (fn_X12_seed p1 v0_64 f1) (fun r => 0 ≤ r.1 ∧ r.1 ≤ 1 ∧ (r.1 = 1 → 0 ≤ p1 ∧ 0 ≤ r.2.1 ∧ p1 ≤ r.2.1 ∧ r.1 ≤ p1 + 1 ∧ r.1 ≤ r.2.1 + 1 ∧ r.2.1 ≤ p1) ∧ (¬ r.1 = 1 → p1 ≤ (-1) ∧ p1 < r.1 ∧ r.1 ≤ 0 ∧ r.2.1 ≤ v0_64 ∧ v0_64 ≤ r.2.1) ∧ (r.1 = 0 → p1 ≤ (-1) ∧ p1 < r.1 ∧ r.2.1 ≤ v0_64 ∧ v0_64 ≤ r.2.1) ∧ (¬ r.1 = 0 → 0 ≤ p1 ∧ 1 ≤ r.1 ∧ 0 ≤ r.2.1 ∧ p1 ≤ r.2.1 ∧ r.1 ≤ p1 + 1 ∧ r.1 ≤ r.2.1 + 1 ∧ r.2.1 ≤ p1)) := by
  unfold fn_X12_seed
  refine zw_if (fun c1 => ?_) (fun c1 => ?_)
  · refine zw_some ?_
    first | trivial | (try dsimp only); grind [zu_at, zu_atL]
  refine zw_zb0 (sf_X12_isRefused 4 f1 (by grind [zu_at, zu_atL])) (fun o_2 ho_2 => ?_)
  refine zw_some ?_
  first | trivial | (try dsimp only); grind [zu_at, zu_atL]
set_option maxHeartbeats 1000000 in
theorem sf_X12_status (p1 : Int32) (f1 : Nat → Int32) : zw (fn_X12_status p1 f1) (fun r => (¬ r = (-1) → (f1 p1.toNatClampNeg) ≤ r ∧ 0 ≤ p1 ∧ p1 ≤ 4 ∧ r ≤ (f1 p1.toNatClampNeg))) := by
  unfold fn_X12_status
  refine zw_zb0 (sf_X12_isIn p1.toInt64 (0 : Int64) (4 : Int64)) (fun o_1 ho_1 => ?_)
  refine zw_if (fun c1 => ?_) (fun c1 => ?_)
  · refine zw_some ?_
    first | trivial | (try dsimp only); grind [zu_at, zu_atL]
  refine zw_zg32 5 (by decide) (by grind [zu_at, zu_atL]) ?_
  refine zw_some ?_
  first | trivial | (try dsimp only); grind [zu_at, zu_atL]
