set_option maxHeartbeats 1000000 in
theorem sf_X12_blame (p1 : Int32) (p2 : Int32) (v0_33 : Int32) (w0_34 : Int64) (v0_38 : Int32) (v0_41 : Int32) (v0_42 : Int32) (f1 : Nat → Int32) (f2 : Nat → Int32) (f3 : Nat → Int32) (f4 : Nat → Int32) (f5 : Nat → Int32) (f6 : Nat → Int32) (f7 : Nat → Int32) (f8 : Nat → Int32) (f9 : Nat → Int32) (f10 : Nat → Int64) (f11 : Nat → Int64) (f12 : Nat → Int64) (f13 : Nat → Int64) (f14 : Nat → Int32) (f15 : Nat → Int64) (f16 : Nat → Int32) (f17 : Nat → Int32) (h_v0_38 : 0 ≤ v0_38 ∧ v0_38 ≤ 1) (h_f1 : (∀ i : Nat, 0 ≤ f1 i ∧ f1 i ≤ 14)) (h_f3 : (∀ i : Nat, 0 ≤ f3 i ∧ f3 i ≤ 13)) (h_f4 : (∀ i : Nat, (-1) ≤ f4 i ∧ f4 i ≤ 3)) (h_f5 : (∀ i : Nat, 0 ≤ f5 i ∧ f5 i ≤ 3)) (h_f6 : (∀ i : Nat, 0 ≤ f6 i ∧ f6 i ≤ 3)) (h_f8 : (∀ i : Nat, (-1) ≤ f8 i ∧ f8 i ≤ 13)) (h_f9 : (∀ i : Nat, (-1) ≤ f9 i ∧ f9 i ≤ 13)) (h_f17 : (∀ i : Nat, 0 ≤ f17 i ∧ f17 i ≤ 4)) (hx_0 : f1 (0 : Int32).toNatClampNeg ≤ 0 ∨ 1 ≤ f17 (0 : Int32).toNatClampNeg ∧ (∀ x : Int32, 0 ≤ x → x < f17 (0 : Int32).toNatClampNeg → 1 ≤ f14 x.toNatClampNeg) ∧ (∀ i : Nat, 1 ≤ f14 (f5 i).toNatClampNeg) ∧ (∀ i : Nat, 1 ≤ f14 (f6 i).toNatClampNeg)) : zw (fn_X12_blame p1 p2 v0_33 w0_34 v0_38 v0_41 v0_42 f1 f2 f3 f4 f5 f6 f7 f8 f9 f10 f11 f12 f13 f14 f15 f16 f17) (fun r => (∀ i : Nat, 0 ≤ r.2.2.2.2.1 i ∧ r.2.2.2.2.1 i ≤ 3) ∧ (¬ r.1 = (-1000000000000000) → (f1 (0 : Int32).toNatClampNeg) ≤ r.2.1 + 15 ∧ (f1 (0 : Int32).toNatClampNeg) ≤ r.2.2.2.1 + 14 ∧ (f1 (0 : Int32).toNatClampNeg) ≤ v0_38 + 13 ∧ (f17 (0 : Int32).toNatClampNeg) ≤ 4 ∧ (f17 (0 : Int32).toNatClampNeg) ≤ r.2.1 + 5 ∧ (f17 (0 : Int32).toNatClampNeg) ≤ r.2.2.2.1 + 4 ∧ (f17 (0 : Int32).toNatClampNeg) ≤ v0_38 + 3 ∧ (f3 p2.toNatClampNeg) ≤ 13 ∧ (f3 p2.toNatClampNeg) ≤ r.2.1 + 14 ∧ (f3 p2.toNatClampNeg) ≤ r.2.2.2.1 + 13 ∧ (f3 p2.toNatClampNeg) ≤ v0_38 + 12 ∧ 1 ≤ (f17 (0 : Int32).toNatClampNeg) ∧ 0 ≤ (f3 p2.toNatClampNeg) ∧ 0 ≤ p1 ∧ 0 ≤ p2 ∧ (-1) ≤ r.2.1 ∧ (-2) ≤ r.2.2.1 ∧ 0 ≤ r.2.2.2.1 ∧ 1 ≤ v0_38 ∧ p1 < (f1 (0 : Int32).toNatClampNeg) ∧ p2 < (f1 (0 : Int32).toNatClampNeg) ∧ r.2.1 + 2 ≤ (f17 (0 : Int32).toNatClampNeg) ∧ r.2.1 < (f3 p2.toNatClampNeg) ∧ r.2.1 ≤ (-1) ∧ r.2.1 < p1 ∧ r.2.1 < p2 ∧ r.2.1 ≤ r.2.2.1 + 1 ∧ r.2.1 < r.2.2.2.1 ∧ r.2.1 + 2 ≤ v0_38 ∧ r.2.2.1 ≤ 12 ∧ r.2.2.1 ≤ r.2.1 + 13 ∧ r.2.2.1 ≤ r.2.2.2.1 + 12 ∧ r.2.2.1 ≤ v0_38 + 11 ∧ r.2.2.2.1 < (f17 (0 : Int32).toNatClampNeg) ∧ r.2.2.2.1 ≤ (f3 p2.toNatClampNeg) ∧ r.2.2.2.1 ≤ 0 ∧ r.2.2.2.1 ≤ p1 ∧ r.2.2.2.1 ≤ p2 ∧ r.2.2.2.1 ≤ r.2.1 + 1 ∧ r.2.2.2.1 ≤ r.2.2.1 + 2 ∧ r.2.2.2.1 < v0_38 ∧ v0_38 ≤ (f17 (0 : Int32).toNatClampNeg) ∧ v0_38 ≤ (f3 p2.toNatClampNeg) + 1 ∧ v0_38 ≤ p1 + 1 ∧ v0_38 ≤ p2 + 1 ∧ v0_38 ≤ r.2.1 + 2 ∧ v0_38 ≤ r.2.2.1 + 3 ∧ v0_38 ≤ r.2.2.2.1 + 1) ∧ (∀ i : Nat, r.2.2.2.2.1 i = f5 i ∨ r.2.2.2.2.1 i = f6 i ∨ 0 ≤ r.2.2.2.2.1 i ∧ r.2.2.2.2.1 i < f17 (0 : Int32).toNatClampNeg)) := by
  unfold fn_X12_blame
  refine zw_zb0 (sf_X12_isAnswer p1 f1 f2 (by grind [zu_at, zu_atL])) (fun o_1 ho_1 => ?_)
  refine zw_if (fun c1 => ?_) (fun c1 => ?_)
  · refine zw_some ?_
    first | trivial | (try dsimp only); grind [zu_at, zu_atL]
  refine zw_zb0 (sf_X12_isNumber p2 f1 (by grind [zu_at, zu_atL])) (fun o_6 ho_6 => ?_)
  refine zw_if (fun c2 => ?_) (fun c2 => ?_)
  · refine zw_some ?_
    first | trivial | (try dsimp only); grind [zu_at, zu_atL]
  refine zw_zg32 28 (by decide) (by grind [zu_at, zu_atL]) ?_
  refine zw_zb0 (sf_X12_isFree (f3 p2.toNatClampNeg) f1 f3 f4 (by grind [zu_at, zu_atL]) (by grind [zu_at, zu_atL]) (by grind [zu_at, zu_atL])) (fun o_12 ho_12 => ?_)
  refine zw_if (fun c3 => ?_) (fun c3 => ?_)
  · refine zw_some ?_
    first | trivial | (try dsimp only); grind [zu_at, zu_atL]
  refine zw_zb0 (sf_X12_handPasses w0_34 v0_38 v0_41 v0_42 f1 f5 f6 f7 f8 f9 f10 f11 f12 f13 f14 f15 f16 f2 (by grind [zu_at, zu_atL]) (by grind [zu_at, zu_atL]) (by grind [zu_at, zu_atL]) (by grind [zu_at, zu_atL]) (by grind [zu_at, zu_atL]) (by grind [zu_at, zu_atL]) (by grind [zu_at, zu_atL])) (fun o_17 ho_17 => ?_)
  refine zw_if (fun c4 => ?_) (fun c4 => ?_)
  · refine zw_some ?_
    first | trivial | (try dsimp only); grind [zu_at, zu_atL]
  refine zw_zg32 14 (by decide) (by grind [zu_at, zu_atL]) ?_
  refine zw_zb0 (sf_X12_finest f17 f14 (by grind [zu_at, zu_atL]) (by grind [zu_at, zu_atL]) (by grind [zu_at, zu_atL])) (fun o_23 ho_23 => ?_)
  refine zw_zb0 (sf_X12_triesGroup (f3 p2.toNatClampNeg) o_23 f1 f3 o_17.2.2.2.2.1 (by grind [zu_at, zu_atL]) (by grind [zu_at, zu_atL]) (by grind [zu_at, zu_atL]) (by grind [zu_at, zu_atL])) (fun o_27 ho_27 => ?_)
  refine zw_zb0 (sf_X12_passes o_17.2.1 w0_34 f1 f7 f8 f9 o_17.2.2.2.2.2.1 f11 f12 o_17.2.2.2.2.2.2.1 o_27 f14 o_17.2.2.2.2.2.2.2 f16 f2 (by grind [zu_at, zu_atL]) (by grind [zu_at, zu_atL]) (by grind [zu_at, zu_atL]) (by grind [zu_at, zu_atL]) (by grind [zu_at, zu_atL])) (fun o_31 ho_31 => ?_)
  refine zw_if (fun c5 => ?_) (fun c5 => ?_)
  · refine zw_some ?_
    first | trivial | (try dsimp only); grind [zu_at, zu_atL]
  refine zw_zn (fun x_36 ex_36 => ?_)
  refine zw_some ?_
  first | trivial | (try dsimp only); grind [zu_at, zu_atL]
set_option maxHeartbeats 1000000 in
theorem sf_X12_canSearch (v0_38 : Int32) (f1 : Nat → Int32) (f2 : Nat → Int32) (f3 : Nat → Int32) (f4 : Nat → Int32) (h_v0_38 : 0 ≤ v0_38 ∧ v0_38 ≤ 1) (h_f1 : (∀ i : Nat, 0 ≤ f1 i ∧ f1 i ≤ 14)) (h_f2 : (∀ i : Nat, 0 ≤ f2 i ∧ f2 i ≤ 13)) (h_f3 : (∀ i : Nat, (-1) ≤ f3 i ∧ f3 i ≤ 3)) (h_f4 : (∀ i : Nat, 0 ≤ f4 i ∧ f4 i ≤ 13)) : zw (fn_X12_canSearch v0_38 f1 f2 f3 f4) (fun r => 0 ≤ r.1 ∧ r.1 ≤ 1 ∧ 0 ≤ r.2.1 ∧ r.2.1 ≤ 14 ∧ (∀ i : Nat, 0 ≤ r.2.2.2 i ∧ r.2.2.2 i ≤ 13) ∧ (f1 (0 : Int32).toNatClampNeg) ≤ r.2.2.1 + 15 ∧ (-1) ≤ r.2.2.1 ∧ r.1 ≤ (f1 (0 : Int32).toNatClampNeg) ∧ r.1 ≤ v0_38 ∧ r.2.1 ≤ r.2.2.1 + 15 ∧ r.2.2.1 ≤ (-1) ∧ r.2.2.1 < r.1 ∧ r.2.2.1 < r.2.1 ∧ v0_38 ≤ r.2.2.1 + 2 ∧ (r.1 = 0 → r.1 ≤ r.2.1 ∧ r.1 ≤ r.2.2.1 + 1) ∧ (¬ r.1 = 0 → (f1 (0 : Int32).toNatClampNeg) ≤ r.1 + 13 ∧ (f1 (0 : Int32).toNatClampNeg) ≤ v0_38 + 13 ∧ 1 ≤ (f1 (0 : Int32).toNatClampNeg) ∧ 1 ≤ r.1 ∧ 1 ≤ v0_38 ∧ r.2.1 ≤ 5 ∧ r.2.1 ≤ r.1 + 4 ∧ r.2.1 ≤ r.2.2.1 + 6 ∧ r.2.1 ≤ v0_38 + 4 ∧ r.2.2.1 + 2 ≤ (f1 (0 : Int32).toNatClampNeg) ∧ r.2.2.1 + 2 ≤ r.1 ∧ r.2.2.1 + 2 ≤ v0_38 ∧ v0_38 ≤ (f1 (0 : Int32).toNatClampNeg) ∧ v0_38 ≤ r.1) ∧ (r.1 = 1 → (f1 (0 : Int32).toNatClampNeg) ≤ r.1 + 13 ∧ (f1 (0 : Int32).toNatClampNeg) ≤ v0_38 + 13 ∧ 1 ≤ (f1 (0 : Int32).toNatClampNeg) ∧ 1 ≤ v0_38 ∧ r.2.1 ≤ 5 ∧ r.2.1 ≤ r.1 + 4 ∧ r.2.1 ≤ r.2.2.1 + 6 ∧ r.2.1 ≤ v0_38 + 4 ∧ r.2.2.1 + 2 ≤ (f1 (0 : Int32).toNatClampNeg) ∧ r.2.2.1 + 2 ≤ r.1 ∧ r.2.2.1 + 2 ≤ v0_38 ∧ v0_38 ≤ (f1 (0 : Int32).toNatClampNeg) ∧ v0_38 ≤ r.1) ∧ (¬ r.1 = 1 → r.1 ≤ 0 ∧ r.1 ≤ r.2.1 ∧ r.1 ≤ r.2.2.1 + 1)) := by
  unfold fn_X12_canSearch
  refine zw_zb0 (sf_X12_laysFree f1 f2 f3 f4 (by grind [zu_at, zu_atL]) (by grind [zu_at, zu_atL]) (by grind [zu_at, zu_atL]) (by grind [zu_at, zu_atL])) (fun o_1 ho_1 => ?_)
  refine zw_if (fun c1 => ?_) (fun c1 => ?_)
  · refine zw_some ?_
    first | trivial | (try dsimp only); grind [zu_at, zu_atL]
  refine zw_if (fun c2 => ?_) (fun c2 => ?_)
  · refine zw_some ?_
    first | trivial | (try dsimp only); grind [zu_at, zu_atL]
  refine zw_if (fun c3 => ?_) (fun c3 => ?_)
  · refine zw_some ?_
    first | trivial | (try dsimp only); grind [zu_at, zu_atL]
  refine zw_some ?_
  first | trivial | (try dsimp only); grind [zu_at, zu_atL]
set_option maxHeartbeats 1000000 in
theorem sf_X12_allChoices (v0_30 : Int32) (f1 : Nat → Int32) (h_v0_30 : 0 ≤ v0_30 ∧ v0_30 ≤ 5) (h_f1 : (∀ i : Nat, 0 ≤ f1 i ∧ f1 i ≤ 4)) : zw (fn_X12_allChoices v0_30 f1) (fun r => 0 ≤ r ∧ r ≤ 1024) := by
  unfold fn_X12_allChoices
  refine zw_zl32 (fun s_1 => 0 ≤ s_1.1 ∧ 0 ≤ s_1.2 ∧ s_1.1 ≤ 1024 ∧ s_1.2 ≤ v0_30 ∧ (s_1.2 = 0 ∧ s_1.1 = 1 ∨ s_1.2 = 1 ∧ s_1.1 ≤ 4 ∨ s_1.2 = 2 ∧ s_1.1 ≤ 16 ∨ s_1.2 = 3 ∧ s_1.1 ≤ 64 ∨ s_1.2 = 4 ∧ s_1.1 ≤ 256 ∨ s_1.2 = 5 ∧ s_1.1 ≤ 1024)) (fun s_1 => 5 - s_1.2) (by (try dsimp only); grind [zu_at, zu_atL, zmul4]) (by (try dsimp only); grind [zu_at, zu_atL, zmul4]) (fun s_1 back_1 Hback_1 hback_1 => ?_)
  refine zw_if (fun c1 => ?_) (fun c1 => ?_)
  · refine zw_some ?_
    first | trivial | (try dsimp only); grind [zu_at, zu_atL, zmul4]
  exact hback_1 _ (by grind [zu_at, zu_atL, zmul4]) (by grind [zu_at, zu_atL, zmul4]) (by grind [zu_at, zu_atL, zmul4])
set_option maxHeartbeats 1000000 in
theorem sf_X12_triesChoice (p1 : Int32) (v0_30 : Int32) (f1 : Nat → Int32) (f2 : Nat → Int32) (f3 : Nat → Int32) (f4 : Nat → Int32) (f5 : Nat → Int32) (f6 : Nat → Int32) (h_p1 : 0 ≤ p1 ∧ p1 ≤ 1023) (h_v0_30 : 0 ≤ v0_30 ∧ v0_30 ≤ 14) (h_f1 : (∀ i : Nat, 0 ≤ f1 i ∧ f1 i ≤ 14)) (h_f2 : (∀ i : Nat, 0 ≤ f2 i ∧ f2 i ≤ 3)) (h_f3 : (∀ i : Nat, 0 ≤ f3 i ∧ f3 i ≤ 3)) (h_f4 : (∀ i : Nat, 0 ≤ f4 i ∧ f4 i ≤ 13)) (h_f5 : (∀ i : Nat, 0 ≤ f5 i ∧ f5 i ≤ 4)) (h_f6 : (∀ i : Nat, 0 ≤ f6 i ∧ f6 i ≤ 13)) (hr_0 : 1 ≤ (f5 (0 : Int32).toNatClampNeg)) : zw (fn_X12_triesChoice p1 v0_30 f1 f2 f3 f4 f5 f6) (fun r => (∀ i : Nat, 0 ≤ r i ∧ r i ≤ 3) ∧ (∀ i : Nat, r i = f2 i ∨ r i = f3 i ∨ 0 ≤ r i ∧ r i < f5 (0 : Int32).toNatClampNeg)) := by
  unfold fn_X12_triesChoice
  refine zw_zb0 (sf_X12_triesHand f1 f2 f3 (by grind [zu_at, zu_atL]) (by grind [zu_at, zu_atL]) (by grind [zu_at, zu_atL])) (fun o_1 ho_1 => ?_)
  refine zw_zl32 (fun s_5 => (∀ i : Nat, 0 ≤ s_5.2.2 i ∧ s_5.2.2 i ≤ 3) ∧ 0 ≤ s_5.1 ∧ (-1) ≤ s_5.2.1 ∧ s_5.1 ≤ p1 ∧ s_5.2.1 < v0_30 ∧ (∀ i : Nat, s_5.2.2 i = f2 i ∨ s_5.2.2 i = f3 i ∨ 0 ≤ s_5.2.2 i ∧ s_5.2.2 i < f5 (0 : Int32).toNatClampNeg)) (fun s_5 => s_5.2.1 - (-1)) (by (try dsimp only); grind [zu_at, zu_atL]) (by (try dsimp only); grind [zu_at, zu_atL]) (fun s_5 back_5 Hback_5 hback_5 => ?_)
  refine zw_if (fun c1 => ?_) (fun c1 => ?_)
  · refine zw_some ?_
    first | trivial | (try dsimp only); grind [zu_at, zu_atL]
  refine zw_zg32 14 (by decide) (by grind [zu_at, zu_atL]) ?_
  refine zw_zd (by grind [zu_at, zu_atL]) ?_
  refine zw_zn (fun x_9 ex_9 => ?_)
  refine zw_zb0 (sf_X12_triesGroup (f4 s_5.2.1.toNatClampNeg) x_9 f1 f6 s_5.2.2 (by grind [zu_at, zu_atL]) (by grind [zu_at, zu_atL]) (by grind [zu_at, zu_atL]) (by grind [zu_at, zu_atL])) (fun o_10 ho_10 => ?_)
  refine zw_zd (by grind [zu_at, zu_atL]) ?_
  exact hback_5 _ (by grind [zu_at, zu_atL]) (by grind [zu_at, zu_atL]) (by grind [zu_at, zu_atL])
set_option maxHeartbeats 1000000 in
theorem sf_X12_cheapestChoice (v0_30 : Int32) (v0_33 : Int32) (w0_34 : Int64) (v0_41 : Int32) (v0_42 : Int32) (f1 : Nat → Int32) (f2 : Nat → Int32) (f3 : Nat → Int32) (f4 : Nat → Int32) (f5 : Nat → Int32) (f6 : Nat → Int32) (f7 : Nat → Int32) (f8 : Nat → Int32) (f9 : Nat → Int32) (f10 : Nat → Int32) (f11 : Nat → Int32) (f12 : Nat → Int64) (f13 : Nat → Int64) (f14 : Nat → Int64) (f15 : Nat → Int64) (f16 : Nat → Int32) (f17 : Nat → Int64) (f18 : Nat → Int32) (f19 : Nat → Int32) (h_v0_30 : 0 ≤ v0_30 ∧ v0_30 ≤ 5) (h_f1 : (∀ i : Nat, 0 ≤ f1 i ∧ f1 i ≤ 4)) (h_f2 : (∀ i : Nat, 0 ≤ f2 i ∧ f2 i ≤ 14)) (h_f3 : (∀ i : Nat, 0 ≤ f3 i ∧ f3 i ≤ 3)) (h_f4 : (∀ i : Nat, 0 ≤ f4 i ∧ f4 i ≤ 3)) (h_f5 : (∀ i : Nat, 0 ≤ f5 i ∧ f5 i ≤ 13)) (h_f6 : (∀ i : Nat, 0 ≤ f6 i ∧ f6 i ≤ 13)) (h_f8 : (∀ i : Nat, (-1) ≤ f8 i ∧ f8 i ≤ 13)) (h_f9 : (∀ i : Nat, (-1) ≤ f9 i ∧ f9 i ≤ 13)) (hr_0 : 1 ≤ (f1 (0 : Int32).toNatClampNeg)) (hx_0 : (∀ x : Int32, 0 ≤ x → x < f1 (0 : Int32).toNatClampNeg → 1 ≤ f16 x.toNatClampNeg)) (hx_1 : (∀ i : Nat, 1 ≤ f16 (f3 i).toNatClampNeg)) (hx_2 : (∀ i : Nat, 1 ≤ f16 (f4 i).toNatClampNeg)) : zw (fn_X12_cheapestChoice v0_30 v0_33 w0_34 v0_41 v0_42 f1 f2 f3 f4 f5 f6 f7 f8 f9 f10 f11 f12 f13 f14 f15 f16 f17 f18 f19) (fun r => (∀ i : Nat, 0 ≤ r.2.2.2.1 i ∧ r.2.2.2.1 i ≤ 3) ∧ (-1) ≤ r.1 ∧ r.1 ≤ 1023 ∧ (∀ i : Nat, r.2.2.2.1 i = f3 i ∨ r.2.2.2.1 i = f4 i ∨ 0 ≤ r.2.2.2.1 i ∧ r.2.2.2.1 i < f1 (0 : Int32).toNatClampNeg)) := by
  unfold fn_X12_cheapestChoice
  refine zw_zb0 (sf_X12_allChoices v0_30 f1 (by grind [zu_at, zu_atL]) (by grind [zu_at, zu_atL])) (fun o_1 ho_1 => ?_)
  refine zw_zl32 (fun s_5 => (∀ i : Nat, 0 ≤ s_5.2.2.2.2.2.2.2.1 i ∧ s_5.2.2.2.2.2.2.2.1 i ≤ 3) ∧ (-1) ≤ s_5.1 ∧ s_5.1 < s_5.2.2.1 ∧ s_5.2.2.1 ≤ o_1 ∧ (∀ i : Nat, s_5.2.2.2.2.2.2.2.1 i = f3 i ∨ s_5.2.2.2.2.2.2.2.1 i = f4 i ∨ 0 ≤ s_5.2.2.2.2.2.2.2.1 i ∧ s_5.2.2.2.2.2.2.2.1 i < f1 (0 : Int32).toNatClampNeg)) (fun s_5 => 1024 - s_5.2.2.1) (by (try dsimp only); grind [zu_at, zu_atL]) (by (try dsimp only); grind [zu_at, zu_atL]) (fun s_5 back_5 Hback_5 hback_5 => ?_)
  refine zw_if (fun c1 => ?_) (fun c1 => ?_)
  · refine zw_some ?_
    first | trivial | (try dsimp only); grind [zu_at, zu_atL]
  refine zw_zb0 (sf_X12_triesChoice s_5.2.2.1 v0_30 f2 f3 s_5.2.2.2.2.2.2.2.1 f5 f1 f6 (by grind [zu_at, zu_atL]) (by grind [zu_at, zu_atL]) (by grind [zu_at, zu_atL]) (by grind [zu_at, zu_atL]) (by grind [zu_at, zu_atL]) (by grind [zu_at, zu_atL]) (by grind [zu_at, zu_atL]) (by grind [zu_at, zu_atL]) (by grind [zu_at, zu_atL])) (fun o_7 ho_7 => ?_)
  refine zw_zb0 (sf_X12_costTried f7 f2 f8 o_7 f9 f10 (by grind [zu_at, zu_atL]) (by grind [zu_at, zu_atL]) (by grind [zu_at, zu_atL]) (by grind [zu_at, zu_atL])) (fun o_11 ho_11 => ?_)
  refine zw_zj (fun _ => True) (fun s_15 Hj_15 => ?_) (fun j_15 hj_15 => ?_)
  · refine zw_zb0 (sf_X12_passes v0_33 w0_34 f2 f11 f8 f9 s_5.2.2.2.2.2.1 f13 f14 s_5.2.2.2.2.2.2.1 o_7 f16 s_5.2.2.2.2.2.2.2.2 f18 f19 (by grind [zu_at, zu_atL]) (by grind [zu_at, zu_atL]) (by grind [zu_at, zu_atL]) (by grind [zu_at, zu_atL]) (by grind [zu_at, zu_atL])) (fun o_16 ho_16 => ?_)
    refine zw_if (fun c2 => ?_) (fun c2 => ?_)
    · exact hback_5 _ (by grind [zu_at, zu_atL]) (by grind [zu_at, zu_atL]) (by grind [zu_at, zu_atL])
    exact hback_5 _ (by grind [zu_at, zu_atL]) (by grind [zu_at, zu_atL]) (by grind [zu_at, zu_atL])
  refine zw_if (fun c3 => ?_) (fun c3 => ?_)
  · exact hj_15 _ (by grind [zu_at, zu_atL])
  refine zw_if (fun c4 => ?_) (fun c4 => ?_)
  · exact hback_5 _ (by grind [zu_at, zu_atL]) (by grind [zu_at, zu_atL]) (by grind [zu_at, zu_atL])
  exact hj_15 _ (by grind [zu_at, zu_atL])
set_option maxHeartbeats 1000000 in
theorem sf_X12_cheapest (p1 : Int32) (w0_34 : Int64) (v0_38 : Int32) (v0_41 : Int32) (v0_42 : Int32) (f1 : Nat → Int32) (f2 : Nat → Int32) (f3 : Nat → Int32) (f4 : Nat → Int32) (f5 : Nat → Int32) (f6 : Nat → Int32) (f7 : Nat → Int32) (f8 : Nat → Int32) (f9 : Nat → Int32) (f10 : Nat → Int32) (f11 : Nat → Int32) (f12 : Nat → Int32) (f13 : Nat → Int64) (f14 : Nat → Int64) (f15 : Nat → Int64) (f16 : Nat → Int64) (f17 : Nat → Int32) (f18 : Nat → Int64) (f19 : Nat → Int32) (f20 : Nat → Int32) (h_v0_38 : 0 ≤ v0_38 ∧ v0_38 ≤ 1) (h_f1 : (∀ i : Nat, 0 ≤ f1 i ∧ f1 i ≤ 14)) (h_f2 : (∀ i : Nat, 0 ≤ f2 i ∧ f2 i ≤ 13)) (h_f3 : (∀ i : Nat, (-1) ≤ f3 i ∧ f3 i ≤ 3)) (h_f4 : (∀ i : Nat, 0 ≤ f4 i ∧ f4 i ≤ 13)) (h_f5 : (∀ i : Nat, 0 ≤ f5 i ∧ f5 i ≤ 4)) (h_f6 : (∀ i : Nat, 0 ≤ f6 i ∧ f6 i ≤ 3)) (h_f7 : (∀ i : Nat, 0 ≤ f7 i ∧ f7 i ≤ 3)) (h_f9 : (∀ i : Nat, (-1) ≤ f9 i ∧ f9 i ≤ 13)) (h_f10 : (∀ i : Nat, (-1) ≤ f10 i ∧ f10 i ≤ 13)) (hx_0 : f1 (0 : Int32).toNatClampNeg ≤ 0 ∨ 1 ≤ f5 (0 : Int32).toNatClampNeg ∧ (∀ x : Int32, 0 ≤ x → x < f5 (0 : Int32).toNatClampNeg → 1 ≤ f17 x.toNatClampNeg) ∧ (∀ i : Nat, 1 ≤ f17 (f6 i).toNatClampNeg) ∧ (∀ i : Nat, 1 ≤ f17 (f7 i).toNatClampNeg)) : zw (fn_X12_cheapest p1 w0_34 v0_38 v0_41 v0_42 f1 f2 f3 f4 f5 f6 f7 f8 f9 f10 f11 f12 f13 f14 f15 f16 f17 f18 f19 f20) (fun r => 0 ≤ r.2.1 ∧ r.2.1 ≤ 14 ∧ (∀ i : Nat, 0 ≤ r.2.2.2.2.2.1 i ∧ r.2.2.2.2.2.1 i ≤ 13) ∧ (∀ i : Nat, 0 ≤ r.2.2.2.2.2.2.1 i ∧ r.2.2.2.2.2.2.1 i ≤ 3) ∧ (f1 (0 : Int32).toNatClampNeg) ≤ r.2.2.1 + 15 ∧ (-1) ≤ r.2.2.1 ∧ r.2.1 ≤ r.2.2.1 + 15 ∧ r.2.2.1 < (f1 (0 : Int32).toNatClampNeg) ∧ r.2.2.1 ≤ (-1) ∧ r.2.2.1 < r.2.1 ∧ r.2.2.1 < v0_38 ∧ v0_38 ≤ r.2.2.1 + 2 ∧ (¬ r.1 = (-1) → (f1 (0 : Int32).toNatClampNeg) ≤ v0_38 + 13 ∧ (f5 (0 : Int32).toNatClampNeg) ≤ 4 ∧ (f5 (0 : Int32).toNatClampNeg) ≤ r.2.2.1 + 5 ∧ (f5 (0 : Int32).toNatClampNeg) ≤ v0_38 + 3 ∧ 1 ≤ (f1 (0 : Int32).toNatClampNeg) ∧ 1 ≤ (f5 (0 : Int32).toNatClampNeg) ∧ (-1) ≤ p1 ∧ 1 ≤ v0_38 ∧ p1 < (f1 (0 : Int32).toNatClampNeg) ∧ r.2.1 ≤ 5 ∧ r.2.1 ≤ r.2.2.1 + 6 ∧ r.2.1 ≤ v0_38 + 4 ∧ r.2.2.1 + 2 ≤ (f1 (0 : Int32).toNatClampNeg) ∧ r.2.2.1 + 2 ≤ (f5 (0 : Int32).toNatClampNeg) ∧ r.2.2.1 ≤ p1 ∧ r.2.2.1 + 2 ≤ v0_38 ∧ v0_38 ≤ (f1 (0 : Int32).toNatClampNeg) ∧ v0_38 ≤ (f5 (0 : Int32).toNatClampNeg) ∧ v0_38 ≤ p1 + 2) ∧ (∀ i : Nat, r.2.2.2.2.2.2.1 i = f6 i ∨ r.2.2.2.2.2.2.1 i = f7 i ∨ 0 ≤ r.2.2.2.2.2.2.1 i ∧ r.2.2.2.2.2.2.1 i < f5 (0 : Int32).toNatClampNeg)) := by
  unfold fn_X12_cheapest
  refine zw_zb0 (sf_X12_canSearch v0_38 f1 f2 f3 f4 (by grind [zu_at, zu_atL]) (by grind [zu_at, zu_atL]) (by grind [zu_at, zu_atL]) (by grind [zu_at, zu_atL]) (by grind [zu_at, zu_atL])) (fun o_1 ho_1 => ?_)
  refine zw_if (fun c1 => ?_) (fun c1 => ?_)
  · refine zw_some ?_
    first | trivial | (try dsimp only); grind [zu_at, zu_atL]
  refine zw_zj (fun _ => (-1) ≤ p1 ∧ o_1.1 ≤ p1 + 2 ∧ o_1.2.2.1 ≤ p1 ∧ p1 < (f1 (0 : Int32).toNatClampNeg) ∧ v0_38 ≤ p1 + 2) (fun s_6 Hj_6 => ?_) (fun j_6 hj_6 => ?_)
  · refine zw_zb0 (sf_X12_cheapestChoice o_1.2.1 o_1.2.2.1 w0_34 v0_41 v0_42 f5 f1 f6 f7 o_1.2.2.2 f2 f8 f9 f10 f11 f12 f13 f14 f15 f16 f17 f18 f19 f20 (by grind [zu_at, zu_atL]) (by grind [zu_at, zu_atL]) (by grind [zu_at, zu_atL]) (by grind [zu_at, zu_atL]) (by grind [zu_at, zu_atL]) (by grind [zu_at, zu_atL]) (by grind [zu_at, zu_atL]) (by grind [zu_at, zu_atL]) (by grind [zu_at, zu_atL]) (by grind [zu_at, zu_atL]) (by grind [zu_at, zu_atL]) (by grind [zu_at, zu_atL]) (by grind [zu_at, zu_atL])) (fun o_7 ho_7 => ?_)
    refine zw_if (fun c2 => ?_) (fun c2 => ?_)
    · refine zw_some ?_
      first | trivial | (try dsimp only); grind [zu_at, zu_atL]
    refine zw_zb0 (sf_X12_triesChoice o_7.1 o_1.2.1 f1 f6 o_7.2.2.2.1 o_1.2.2.2 f5 f2 (by grind [zu_at, zu_atL]) (by grind [zu_at, zu_atL]) (by grind [zu_at, zu_atL]) (by grind [zu_at, zu_atL]) (by grind [zu_at, zu_atL]) (by grind [zu_at, zu_atL]) (by grind [zu_at, zu_atL]) (by grind [zu_at, zu_atL]) (by grind [zu_at, zu_atL])) (fun o_12 ho_12 => ?_)
    refine zw_if (fun c3 => ?_) (fun c3 => ?_)
    · refine zw_zb0 (sf_X12_costTried f8 f1 f9 o_12 f10 f11 (by grind [zu_at, zu_atL]) (by grind [zu_at, zu_atL]) (by grind [zu_at, zu_atL]) (by grind [zu_at, zu_atL])) (fun o_18 ho_18 => ?_)
      refine zw_some ?_
      first | trivial | (try dsimp only); grind [zu_at, zu_atL]
    refine zw_zg32 14 (by decide) (by grind [zu_at, zu_atL]) ?_
    refine zw_some ?_
    first | trivial | (try dsimp only); grind [zu_at, zu_atL]
  refine zw_if (fun c4 => ?_) (fun c4 => ?_)
  · exact hj_6 _ (by grind [zu_at, zu_atL])
  refine zw_zb0 (sf_X12_isNumber p1 f1 (by grind [zu_at, zu_atL])) (fun o_23 ho_23 => ?_)
  refine zw_if (fun c5 => ?_) (fun c5 => ?_)
  · refine zw_some ?_
    first | trivial | (try dsimp only); grind [zu_at, zu_atL]
  exact hj_6 _ (by grind [zu_at, zu_atL])
set_option maxHeartbeats 1000000 in
theorem sf_X12_passing (v0_33 : Int32) (w0_34 : Int64) (v0_38 : Int32) (v0_41 : Int32) (v0_42 : Int32) (f1 : Nat → Int32) (f2 : Nat → Int32) (f3 : Nat → Int32) (f4 : Nat → Int32) (f5 : Nat → Int32) (f6 : Nat → Int32) (f7 : Nat → Int32) (f8 : Nat → Int32) (f9 : Nat → Int32) (f10 : Nat → Int32) (f11 : Nat → Int64) (f12 : Nat → Int64) (f13 : Nat → Int64) (f14 : Nat → Int64) (f15 : Nat → Int32) (f16 : Nat → Int64) (f17 : Nat → Int32) (f18 : Nat → Int32) (h_v0_38 : 0 ≤ v0_38 ∧ v0_38 ≤ 1) (h_f1 : (∀ i : Nat, 0 ≤ f1 i ∧ f1 i ≤ 14)) (h_f2 : (∀ i : Nat, 0 ≤ f2 i ∧ f2 i ≤ 13)) (h_f3 : (∀ i : Nat, (-1) ≤ f3 i ∧ f3 i ≤ 3)) (h_f4 : (∀ i : Nat, 0 ≤ f4 i ∧ f4 i ≤ 13)) (h_f5 : (∀ i : Nat, 0 ≤ f5 i ∧ f5 i ≤ 4)) (h_f6 : (∀ i : Nat, 0 ≤ f6 i ∧ f6 i ≤ 3)) (h_f7 : (∀ i : Nat, 0 ≤ f7 i ∧ f7 i ≤ 3)) (h_f9 : (∀ i : Nat, (-1) ≤ f9 i ∧ f9 i ≤ 13)) (h_f10 : (∀ i : Nat, (-1) ≤ f10 i ∧ f10 i ≤ 13)) (hx_0 : f1 (0 : Int32).toNatClampNeg ≤ 0 ∨ 1 ≤ f5 (0 : Int32).toNatClampNeg ∧ (∀ x : Int32, 0 ≤ x → x < f5 (0 : Int32).toNatClampNeg → 1 ≤ f15 x.toNatClampNeg) ∧ (∀ i : Nat, 1 ≤ f15 (f6 i).toNatClampNeg) ∧ (∀ i : Nat, 1 ≤ f15 (f7 i).toNatClampNeg)) : zw (fn_X12_passing v0_33 w0_34 v0_38 v0_41 v0_42 f1 f2 f3 f4 f5 f6 f7 f8 f9 f10 f11 f12 f13 f14 f15 f16 f17 f18) (fun r => 0 ≤ r.2.1 ∧ r.2.1 ≤ 14 ∧ (∀ i : Nat, 0 ≤ r.2.2.2.2.2.1 i ∧ r.2.2.2.2.2.1 i ≤ 13) ∧ (∀ i : Nat, 0 ≤ r.2.2.2.2.2.2.1 i ∧ r.2.2.2.2.2.2.1 i ≤ 3) ∧ (-1) ≤ r.1 ∧ (r.1 = (-1) → (f1 (0 : Int32).toNatClampNeg) ≤ r.2.1 + 8 ∧ r.1 < (f1 (0 : Int32).toNatClampNeg) ∧ r.1 < r.2.1 ∧ r.1 < v0_38 ∧ r.2.2.1 ≤ v0_33 ∧ r.2.2.2.1 ≤ v0_41 ∧ r.2.2.2.2.1 ≤ v0_42 ∧ v0_33 ≤ r.2.2.1 ∧ v0_41 ≤ r.2.2.2.1 ∧ v0_42 ≤ r.2.2.2.2.1) ∧ (¬ r.1 = (-1) → 1 ≤ (f1 (0 : Int32).toNatClampNeg) ∧ 0 ≤ r.1 ∧ r.2.1 ≤ 5) ∧ (r.1 = 0 → 1 ≤ (f1 (0 : Int32).toNatClampNeg) ∧ r.2.1 ≤ 5) ∧ (∀ i : Nat, r.2.2.2.2.2.2.1 i = f6 i ∨ r.2.2.2.2.2.2.1 i = f7 i ∨ 0 ≤ r.2.2.2.2.2.2.1 i ∧ r.2.2.2.2.2.2.1 i < f5 (0 : Int32).toNatClampNeg)) := by
  unfold fn_X12_passing
  refine zw_zb0 (sf_X12_laysFree f1 f2 f3 f4 (by grind [zu_at, zu_atL]) (by grind [zu_at, zu_atL]) (by grind [zu_at, zu_atL]) (by grind [zu_at, zu_atL])) (fun o_1 ho_1 => ?_)
  refine zw_if (fun c1 => ?_) (fun c1 => ?_)
  · refine zw_some ?_
    first | trivial | (try dsimp only); grind [zu_at, zu_atL]
  refine zw_if (fun c2 => ?_) (fun c2 => ?_)
  · refine zw_if (fun c3 => ?_) (fun c3 => ?_)
    · refine zw_some ?_
      first | trivial | (try dsimp only); grind [zu_at, zu_atL]
    refine zw_zb0 (sf_X12_allChoices o_1.1 f5 (by grind [zu_at, zu_atL]) (by grind [zu_at, zu_atL])) (fun o_8 ho_8 => ?_)
    refine zw_zl32 (fun s_12 => (∀ i : Nat, 0 ≤ s_12.2.2.2.2.2.2.1 i ∧ s_12.2.2.2.2.2.2.1 i ≤ 3) ∧ 0 ≤ s_12.1 ∧ s_12.1 ≤ s_12.2.1 ∧ s_12.2.1 ≤ o_8 ∧ v0_38 ≤ s_12.1 + 1 ∧ (∀ i : Nat, s_12.2.2.2.2.2.2.1 i = f6 i ∨ s_12.2.2.2.2.2.2.1 i = f7 i ∨ 0 ≤ s_12.2.2.2.2.2.2.1 i ∧ s_12.2.2.2.2.2.2.1 i < f5 (0 : Int32).toNatClampNeg)) (fun s_12 => 1024 - s_12.2.1) (by (try dsimp only); grind [zu_at, zu_atL]) (by (try dsimp only); grind [zu_at, zu_atL]) (fun s_12 back_12 Hback_12 hback_12 => ?_)
    refine zw_if (fun c4 => ?_) (fun c4 => ?_)
    · refine zw_some ?_
      first | trivial | (try dsimp only); grind [zu_at, zu_atL]
    refine zw_zb0 (sf_X12_triesChoice s_12.2.1 o_1.1 f1 f6 s_12.2.2.2.2.2.2.1 o_1.2 f5 f2 (by grind [zu_at, zu_atL]) (by grind [zu_at, zu_atL]) (by grind [zu_at, zu_atL]) (by grind [zu_at, zu_atL]) (by grind [zu_at, zu_atL]) (by grind [zu_at, zu_atL]) (by grind [zu_at, zu_atL]) (by grind [zu_at, zu_atL]) (by grind [zu_at, zu_atL])) (fun o_14 ho_14 => ?_)
    refine zw_zb0 (sf_X12_passes (-1) w0_34 f1 f8 f9 f10 s_12.2.2.2.2.1 f12 f13 s_12.2.2.2.2.2.1 o_14 f15 s_12.2.2.2.2.2.2.2 f17 f18 (by grind [zu_at, zu_atL]) (by grind [zu_at, zu_atL]) (by grind [zu_at, zu_atL]) (by grind [zu_at, zu_atL]) (by grind [zu_at, zu_atL])) (fun o_18 ho_18 => ?_)
    refine zw_if (fun c5 => ?_) (fun c5 => ?_)
    · exact hback_12 _ (by grind [zu_at, zu_atL]) (by grind [zu_at, zu_atL]) (by grind [zu_at, zu_atL])
    exact hback_12 _ (by grind [zu_at, zu_atL]) (by grind [zu_at, zu_atL]) (by grind [zu_at, zu_atL])
  refine zw_some ?_
  first | trivial | (try dsimp only); grind [zu_at, zu_atL]
set_option maxHeartbeats 1000000 in
theorem sf_X12_keepsTried (f1 : Nat → Int32) (f2 : Nat → Int32) (f3 : Nat → Int32) (f4 : Nat → Int32) (f5 : Nat → Int32) (f6 : Nat → Int32) (f7 : Nat → Int32) (h_f1 : (∀ i : Nat, 0 ≤ f1 i ∧ f1 i ≤ 14)) (h_f2 : (∀ i : Nat, 0 ≤ f2 i ∧ f2 i ≤ 3)) (h_f3 : (∀ i : Nat, 0 ≤ f3 i ∧ f3 i ≤ 3)) (h_f5 : (∀ i : Nat, (-1) ≤ f5 i ∧ f5 i ≤ 13)) (h_f6 : (∀ i : Nat, (-1) ≤ f6 i ∧ f6 i ≤ 13)) : zw (fn_X12_keepsTried f1 f2 f3 f4 f5 f6 f7) (fun r => (∀ i : Nat, 0 ≤ r.2 i ∧ r.2 i ≤ 3) ∧ (∀ i : Nat, r.2 i = f2 i ∨ r.2 i = f3 i)) := by
  unfold fn_X12_keepsTried
  refine zw_zl32 (fun s_1 => (∀ i : Nat, 0 ≤ s_1.2 i ∧ s_1.2 i ≤ 3) ∧ 0 ≤ s_1.1 ∧ s_1.1 ≤ 14 ∧ (∀ i : Nat, s_1.2 i = f2 i ∨ s_1.2 i = f3 i)) (fun s_1 => 14 - s_1.1) (by (try dsimp only); grind [zu_at, zu_atL]) (by (try dsimp only); grind [zu_at, zu_atL]) (fun s_1 back_1 Hback_1 hback_1 => ?_)
  refine zw_if (fun c1 => ?_) (fun c1 => ?_)
  · refine zw_zb0 (sf_X12_costTried f4 f1 f5 f2 f6 f7 (by grind [zu_at, zu_atL]) (by grind [zu_at, zu_atL]) (by grind [zu_at, zu_atL]) (by grind [zu_at, zu_atL])) (fun o_3 ho_3 => ?_)
    refine zw_some ?_
    first | trivial | (try dsimp only); grind [zu_at, zu_atL]
  refine zw_zg32 14 (by decide) (by grind [zu_at, zu_atL]) ?_
  exact hback_1 _ (by grind [zu_at, zu_atL]) (by grind [zu_at, zu_atL]) (by grind [zu_at, zu_atL])
set_option maxHeartbeats 1000000 in
theorem sf_X12_isBetter (p1 : Int32) (p2 : Int32) (p3 : Int32) (v0_33 : Int32) (w0_34 : Int64) (v0_44 : Int32) (v0_45 : Int32) (f1 : Nat → Int32) (f2 : Nat → Int32) (f3 : Nat → Int32) (f4 : Nat → Int32) (f5 : Nat → Int32) (f6 : Nat → Int32) (f7 : Nat → Int32) (f8 : Nat → Int32) (f9 : Nat → Int32) (f10 : Nat → Int64) (f11 : Nat → Int64) (f12 : Nat → Int64) (f13 : Nat → Int64) (f14 : Nat → Int32) (f15 : Nat → Int64) (f16 : Nat → Int32) (f17 : Nat → Int32) (f18 : Nat → Int32) (f19 : Nat → Int32) (f20 : Nat → Int32) (h_p1 : 0 ≤ p1 ∧ p1 ≤ 14) (h_p2 : 0 ≤ p2 ∧ p2 ≤ 14) (h_p3 : 0 ≤ p3 ∧ p3 ≤ 3) (h_f1 : (∀ i : Nat, 0 ≤ f1 i ∧ f1 i ≤ 14)) (h_f2 : (∀ i : Nat, 0 ≤ f2 i ∧ f2 i ≤ 3)) (h_f3 : (∀ i : Nat, 0 ≤ f3 i ∧ f3 i ≤ 3)) (h_f4 : (∀ i : Nat, 0 ≤ f4 i ∧ f4 i ≤ 13)) (h_f5 : (∀ i : Nat, 0 ≤ f5 i ∧ f5 i ≤ 13)) (h_f6 : (∀ i : Nat, 0 ≤ f6 i ∧ f6 i ≤ 13)) (h_f8 : (∀ i : Nat, (-1) ≤ f8 i ∧ f8 i ≤ 13)) (h_f9 : (∀ i : Nat, (-1) ≤ f9 i ∧ f9 i ≤ 13)) (h_f20 : (∀ i : Nat, 0 ≤ f20 i ∧ f20 i ≤ 1)) (hr_0 : (p1 + p2) ≤ 14) (hx_0 : (∀ i : Nat, 1 ≤ f14 (f3 i).toNatClampNeg)) (hx_1 : (∀ i : Nat, 1 ≤ f14 (f2 i).toNatClampNeg)) (hx_2 : 1 ≤ f14 p3.toNatClampNeg) : zw (fn_X12_isBetter p1 p2 p3 v0_33 w0_34 v0_44 v0_45 f1 f2 f3 f4 f5 f6 f7 f8 f9 f10 f11 f12 f13 f14 f15 f16 f17 f18 f19 f20) (fun r => 0 ≤ r.1 ∧ r.1 ≤ 1 ∧ (∀ i : Nat, 0 ≤ r.2.2.2.2.2.1 i ∧ r.2.2.2.2.2.1 i ≤ 3) ∧ (∀ i : Nat, 0 ≤ r.2.2.2.2.2.2.1 i ∧ r.2.2.2.2.2.2.1 i ≤ 3) ∧ (∀ i : Nat, 0 ≤ r.2.2.2.2.2.2.2.2.2.2 i ∧ r.2.2.2.2.2.2.2.2.2.2 i ≤ 1) ∧ (v0_45 + 1) ≤ r.2.2.2.2.1 ∧ 0 ≤ r.2.2.1 ∧ r.2.1 ≤ 13 ∧ r.2.1 ≤ r.2.2.1 + 12 ∧ r.2.2.1 ≤ 2 ∧ r.2.2.1 ≤ r.2.1 + 2 ∧ r.2.2.2.2.1 ≤ (v0_45 + 1) ∧ (r.1 = 1 → (f1 (0 : Int32).toNatClampNeg) ≤ r.1 + 13 ∧ (p1 + p2) ≤ r.1 + 13 ∧ p3 ≤ r.1 + 2 ∧ r.2.1 ≤ 12 ∧ r.2.1 ≤ r.1 + 11 ∧ r.2.2.1 ≤ (f1 (0 : Int32).toNatClampNeg) ∧ r.2.2.1 ≤ 0 ∧ r.2.2.1 ≤ p1 ∧ r.2.2.1 ≤ p2 ∧ r.2.2.1 ≤ p3 ∧ r.2.2.1 < r.1) ∧ (¬ r.1 = 1 → r.1 ≤ (f1 (0 : Int32).toNatClampNeg) ∧ r.1 ≤ 0 ∧ r.1 ≤ p1 ∧ r.1 ≤ p2 ∧ r.1 ≤ p3 ∧ r.1 ≤ r.2.2.1 ∧ r.2.2.2.1 ≤ v0_44 ∧ v0_44 ≤ r.2.2.2.1) ∧ (r.1 = 0 → r.1 ≤ (f1 (0 : Int32).toNatClampNeg) ∧ r.1 ≤ p1 ∧ r.1 ≤ p2 ∧ r.1 ≤ p3 ∧ r.1 ≤ r.2.2.1 ∧ r.2.2.2.1 ≤ v0_44 ∧ v0_44 ≤ r.2.2.2.1) ∧ (¬ r.1 = 0 → (f1 (0 : Int32).toNatClampNeg) ≤ r.1 + 13 ∧ (p1 + p2) ≤ r.1 + 13 ∧ 1 ≤ r.1 ∧ p3 ≤ r.1 + 2 ∧ r.2.1 ≤ 12 ∧ r.2.1 ≤ r.1 + 11 ∧ r.2.2.1 ≤ (f1 (0 : Int32).toNatClampNeg) ∧ r.2.2.1 ≤ 0 ∧ r.2.2.1 ≤ p1 ∧ r.2.2.1 ≤ p2 ∧ r.2.2.1 ≤ p3 ∧ r.2.2.1 < r.1) ∧ (∀ i : Nat, r.2.2.2.2.2.1 i = f3 i ∨ r.2.2.2.2.2.1 i = f2 i ∨ r.2.2.2.2.2.1 i = p3) ∧ (∀ i : Nat, r.2.2.2.2.2.2.1 i = f3 i ∨ r.2.2.2.2.2.2.1 i = f2 i ∨ r.2.2.2.2.2.2.1 i = p3)) := by
  unfold fn_X12_isBetter
  refine zw_zl32 (fun s_1 => (∀ i : Nat, 0 ≤ s_1.2 i ∧ s_1.2 i ≤ 3) ∧ 0 ≤ s_1.1 ∧ s_1.1 ≤ 14 ∧ (∀ i : Nat, s_1.2 i = f3 i ∨ s_1.2 i = f2 i ∨ s_1.2 i = p3)) (fun s_1 => 14 - s_1.1) (by (try dsimp only); grind [zu_at, zu_atL]) (by (try dsimp only); grind [zu_at, zu_atL]) (fun s_1 back_1 Hback_1 hback_1 => ?_)
  refine zw_if (fun c1 => ?_) (fun c1 => ?_)
  · refine zw_zl32 (fun s_3 => (∀ i : Nat, 0 ≤ s_3.2 i ∧ s_3.2 i ≤ 3) ∧ p1 ≤ s_3.1 ∧ s_3.1 ≤ 14 ∧ (∀ i : Nat, s_3.2 i = f3 i ∨ s_3.2 i = f2 i ∨ s_3.2 i = p3)) (fun s_3 => 14 - s_3.1) (by (try dsimp only); grind [zu_at, zu_atL]) (by (try dsimp only); grind [zu_at, zu_atL]) (fun s_3 back_3 Hback_3 hback_3 => ?_)
    refine zw_if (fun c2 => ?_) (fun c2 => ?_)
    · refine zw_zb0 (sf_X12_passes v0_33 w0_34 f1 f7 f8 f9 f10 f11 f12 f13 s_3.2 f14 f15 f16 f17 (by grind [zu_at, zu_atL]) (by grind [zu_at, zu_atL]) (by grind [zu_at, zu_atL]) (by grind [zu_at, zu_atL]) (by grind [zu_at, zu_atL])) (fun o_5 ho_5 => ?_)
      refine zw_if (fun c3 => ?_) (fun c3 => ?_)
      · refine zw_some ?_
        first | trivial | (try dsimp only); grind [zu_at, zu_atL]
      refine zw_zb0 (sf_X12_costTried f18 f1 f8 s_3.2 f9 f19 (by grind [zu_at, zu_atL]) (by grind [zu_at, zu_atL]) (by grind [zu_at, zu_atL]) (by grind [zu_at, zu_atL])) (fun o_10 ho_10 => ?_)
      refine zw_if (fun c4 => ?_) (fun c4 => ?_)
      · refine zw_zb0 (sf_X12_keepsTried f1 s_3.2 f2 f18 f8 f9 f19 (by grind [zu_at, zu_atL]) (by grind [zu_at, zu_atL]) (by grind [zu_at, zu_atL]) (by grind [zu_at, zu_atL]) (by grind [zu_at, zu_atL])) (fun o_15 ho_15 => ?_)
        refine zw_zl32 (fun s_19 => (∀ i : Nat, 0 ≤ s_19.2 i ∧ s_19.2 i ≤ 1) ∧ p1 ≤ s_19.1 ∧ s_19.1 ≤ (p1 + p2)) (fun s_19 => 14 - s_19.1) (by (try dsimp only); grind [zu_at, zu_atL]) (by (try dsimp only); grind [zu_at, zu_atL]) (fun s_19 back_19 Hback_19 hback_19 => ?_)
        refine zw_if (fun c5 => ?_) (fun c5 => ?_)
        · refine zw_some ?_
          first | trivial | (try dsimp only); grind [zu_at, zu_atL]
        refine zw_zg32 14 (by decide) (by grind [zu_at, zu_atL]) ?_
        refine zw_zg32 14 (by decide) (by grind [zu_at, zu_atL]) ?_
        refine zw_zn (fun g_23 eg_23 => ?_)
        exact hback_19 _ (by grind [zu_at, zu_atL]) (by grind [zu_at, zu_atL]) (by grind [zu_at, zu_atL])
      refine zw_some ?_
      first | trivial | (try dsimp only); grind [zu_at, zu_atL]
    refine zw_zg32 14 (by decide) (by grind [zu_at, zu_atL]) ?_
    refine zw_zg32 14 (by decide) (by grind [zu_at, zu_atL]) ?_
    refine zw_zb0 (sf_X12_triesGroup (f5 (f4 s_3.1.toNatClampNeg).toNatClampNeg) p3 f1 f6 s_3.2 (by grind [zu_at, zu_atL]) (by grind [zu_at, zu_atL]) (by grind [zu_at, zu_atL]) (by grind [zu_at, zu_atL])) (fun o_26 ho_26 => ?_)
    exact hback_3 _ (by grind [zu_at, zu_atL]) (by grind [zu_at, zu_atL]) (by grind [zu_at, zu_atL])
  refine zw_zg32 14 (by decide) (by grind [zu_at, zu_atL]) ?_
  exact hback_1 _ (by grind [zu_at, zu_atL]) (by grind [zu_at, zu_atL]) (by grind [zu_at, zu_atL])
set_option maxHeartbeats 1000000 in
theorem sf_X12_halvesBy (p1 : Int32) (v0_30 : Int32) (v0_33 : Int32) (w0_34 : Int64) (v0_41 : Int32) (v0_42 : Int32) (v0_44 : Int32) (v0_45 : Int32) (f1 : Nat → Int32) (f2 : Nat → Int32) (f3 : Nat → Int32) (f4 : Nat → Int32) (f5 : Nat → Int32) (f6 : Nat → Int32) (f7 : Nat → Int32) (f8 : Nat → Int32) (f9 : Nat → Int32) (f10 : Nat → Int32) (f11 : Nat → Int32) (f12 : Nat → Int32) (f13 : Nat → Int64) (f14 : Nat → Int64) (f15 : Nat → Int64) (f16 : Nat → Int64) (f17 : Nat → Int32) (f18 : Nat → Int64) (f19 : Nat → Int32) (f20 : Nat → Int32) (f21 : Nat → Int32) (f22 : Nat → Int32) (h_p1 : 0 ≤ p1 ∧ p1 ≤ 3) (h_v0_30 : 0 ≤ v0_30 ∧ v0_30 ≤ 14) (h_f1 : (∀ i : Nat, 0 ≤ f1 i ∧ f1 i ≤ 1)) (h_f2 : (∀ i : Nat, 0 ≤ f2 i ∧ f2 i ≤ 13)) (h_f5 : (∀ i : Nat, 0 ≤ f5 i ∧ f5 i ≤ 14)) (h_f6 : (∀ i : Nat, 0 ≤ f6 i ∧ f6 i ≤ 3)) (h_f7 : (∀ i : Nat, 0 ≤ f7 i ∧ f7 i ≤ 3)) (h_f8 : (∀ i : Nat, 0 ≤ f8 i ∧ f8 i ≤ 13)) (h_f9 : (∀ i : Nat, 0 ≤ f9 i ∧ f9 i ≤ 13)) (h_f11 : (∀ i : Nat, (-1) ≤ f11 i ∧ f11 i ≤ 13)) (h_f12 : (∀ i : Nat, (-1) ≤ f12 i ∧ f12 i ≤ 13)) (hx_0 : (∀ i : Nat, 1 ≤ f17 (f7 i).toNatClampNeg)) (hx_1 : (∀ i : Nat, 1 ≤ f17 (f6 i).toNatClampNeg)) (hx_2 : 1 ≤ f17 p1.toNatClampNeg) : zw (fn_X12_halvesBy p1 v0_30 v0_33 w0_34 v0_41 v0_42 v0_44 v0_45 f1 f2 f3 f4 f5 f6 f7 f8 f9 f10 f11 f12 f13 f14 f15 f16 f17 f18 f19 f20 f21 f22) (fun r => (∀ i : Nat, 0 ≤ r.2.2.2.2.1 i ∧ r.2.2.2.2.1 i ≤ 1) ∧ (∀ i : Nat, 0 ≤ r.2.2.2.2.2.1 i ∧ r.2.2.2.2.2.1 i ≤ 13) ∧ (∀ i : Nat, 0 ≤ r.2.2.2.2.2.2.2.2.1 i ∧ r.2.2.2.2.2.2.2.2.1 i ≤ 3) ∧ (∀ i : Nat, 0 ≤ r.2.2.2.2.2.2.2.2.2.1 i ∧ r.2.2.2.2.2.2.2.2.2.1 i ≤ 3) ∧ (∀ i : Nat, r.2.2.2.2.2.2.2.2.1 i = f7 i ∨ r.2.2.2.2.2.2.2.2.1 i = f6 i ∨ r.2.2.2.2.2.2.2.2.1 i = p1) ∧ (∀ i : Nat, r.2.2.2.2.2.2.2.2.2.1 i = f7 i ∨ r.2.2.2.2.2.2.2.2.2.1 i = f6 i ∨ r.2.2.2.2.2.2.2.2.2.1 i = p1)) := by
  unfold fn_X12_halvesBy
  refine zw_zl32 (fun s_1 => (∀ i : Nat, 0 ≤ s_1.2.2 i ∧ s_1.2.2 i ≤ 13) ∧ 0 ≤ s_1.1 ∧ s_1.1 ≤ s_1.2.1 ∧ s_1.2.1 ≤ v0_30) (fun s_1 => 14 - s_1.2.1) (by (try dsimp only); grind [zu_at, zu_atL]) (by (try dsimp only); grind [zu_at, zu_atL]) (fun s_1 back_1 Hback_1 hback_1 => ?_)
  refine zw_if (fun c1 => ?_) (fun c1 => ?_)
  · refine zw_zj (fun s_3 => 0 ≤ s_3.1 ∧ s_1.1 ≤ s_3.1 + 13 ∧ s_3.1 ≤ 1 ∧ s_3.1 ≤ s_1.1) (fun s_3 Hj_3 => ?_) (fun j_3 hj_3 => ?_)
    · refine zw_zl32 (fun s_4 => (∀ i : Nat, 0 ≤ s_4.2.2.2.2.2.2.2.2.1 i ∧ s_4.2.2.2.2.2.2.2.2.1 i ≤ 3) ∧ (∀ i : Nat, 0 ≤ s_4.2.2.2.2.2.2.2.2.2.2.1 i ∧ s_4.2.2.2.2.2.2.2.2.2.2.1 i ≤ 3) ∧ (∀ i : Nat, 0 ≤ s_4.2.2.2.2.2.2.2.2.2.2.2.1 i ∧ s_4.2.2.2.2.2.2.2.2.2.2.2.1 i ≤ 1) ∧ 0 ≤ s_4.1 ∧ s_3.1 ≤ s_4.2.1 ∧ s_4.1 ≤ s_4.2.1 ∧ s_4.2.1 ≤ 64 ∧ (∀ i : Nat, s_4.2.2.2.2.2.2.2.2.1 i = f7 i ∨ s_4.2.2.2.2.2.2.2.2.1 i = f6 i ∨ s_4.2.2.2.2.2.2.2.2.1 i = p1) ∧ (∀ i : Nat, s_4.2.2.2.2.2.2.2.2.2.2.1 i = f7 i ∨ s_4.2.2.2.2.2.2.2.2.2.2.1 i = f6 i ∨ s_4.2.2.2.2.2.2.2.2.2.2.1 i = p1)) (fun s_4 => 64 - s_4.1) (by (try dsimp only); grind [zu_at, zu_atL]) (by (try dsimp only); grind [zu_at, zu_atL]) (fun s_4 back_4 Hback_4 hback_4 => ?_)
      refine zw_if (fun c2 => ?_) (fun c2 => ?_)
      · refine zw_some ?_
        first | trivial | (try dsimp only); grind [zu_at, zu_atL]
      refine zw_zg32 64 (by decide) (by grind [zu_at, zu_atL]) ?_
      refine zw_zb0 (sf_X12_isBetter (s_4.2.2.2.2.2.2.2.2.2.2.2.2.1 s_4.1.toNatClampNeg) (s_4.2.2.2.2.2.2.2.2.2.2.2.2.2 s_4.1.toNatClampNeg) p1 v0_33 w0_34 s_4.2.2.2.2.1 s_4.2.2.2.2.2.1 f5 s_4.2.2.2.2.2.2.2.2.2.2.1 s_4.2.2.2.2.2.2.2.2.1 s_1.2.2 f8 f9 f10 f11 f12 s_4.2.2.2.2.2.2.1 f14 f15 s_4.2.2.2.2.2.2.2.1 f17 s_4.2.2.2.2.2.2.2.2.2.1 f19 f20 f21 f22 s_4.2.2.2.2.2.2.2.2.2.2.2.1 (by grind [zu_at, zu_atL]) (by grind [zu_at, zu_atL]) (by grind [zu_at, zu_atL]) (by grind [zu_at, zu_atL]) (by grind [zu_at, zu_atL]) (by grind [zu_at, zu_atL]) (by grind [zu_at, zu_atL]) (by grind [zu_at, zu_atL]) (by grind [zu_at, zu_atL]) (by grind [zu_at, zu_atL]) (by grind [zu_at, zu_atL]) (by grind [zu_at, zu_atL]) (by grind [zu_at, zu_atL]) (by grind [zu_at, zu_atL]) (by grind [zu_at, zu_atL]) (by grind [zu_at, zu_atL])) (fun o_7 ho_7 => ?_)
      refine zw_if (fun c3 => ?_) (fun c3 => ?_)
      · refine zw_if (fun c4 => ?_) (fun c4 => ?_)
        · refine zw_zg32 64 (by decide) (by grind [zu_at, zu_atL]) ?_
          refine zw_zn (fun g_14 eg_14 => ?_)
          refine zw_zn (fun g_15 eg_15 => ?_)
          refine zw_zn (fun x_16 ex_16 => ?_)
          refine zw_zg32 64 (by decide) (by grind [zu_at, zu_atL]) ?_
          refine zw_zn (fun x_18 ex_18 => ?_)
          exact hback_4 _ (by grind [zu_at, zu_atL]) (by grind [zu_at, zu_atL]) (by grind [zu_at, zu_atL])
        exact hback_4 _ (by grind [zu_at, zu_atL]) (by grind [zu_at, zu_atL]) (by grind [zu_at, zu_atL])
      exact hback_4 _ (by grind [zu_at, zu_atL]) (by grind [zu_at, zu_atL]) (by grind [zu_at, zu_atL])
    refine zw_if (fun c5 => ?_) (fun c5 => ?_)
    · exact hj_3 _ (by grind [zu_at, zu_atL])
    exact hj_3 _ (by grind [zu_at, zu_atL])
  refine zw_zg32 14 (by decide) (by grind [zu_at, zu_atL]) ?_
  refine zw_if (fun c6 => ?_) (fun c6 => ?_)
  · refine zw_zg32 14 (by decide) (by grind [zu_at, zu_atL]) ?_
    exact hback_1 _ (by grind [zu_at, zu_atL]) (by grind [zu_at, zu_atL]) (by grind [zu_at, zu_atL])
  exact hback_1 _ (by grind [zu_at, zu_atL]) (by grind [zu_at, zu_atL]) (by grind [zu_at, zu_atL])
set_option maxHeartbeats 1000000 in
theorem sf_X12_halve (w0_34 : Int64) (v0_38 : Int32) (v0_41 : Int32) (v0_42 : Int32) (v0_44 : Int32) (v0_45 : Int32) (f1 : Nat → Int32) (f2 : Nat → Int32) (f3 : Nat → Int32) (f4 : Nat → Int32) (f5 : Nat → Int32) (f6 : Nat → Int32) (f7 : Nat → Int32) (f8 : Nat → Int32) (f9 : Nat → Int32) (f10 : Nat → Int32) (f11 : Nat → Int32) (f12 : Nat → Int32) (f13 : Nat → Int64) (f14 : Nat → Int64) (f15 : Nat → Int64) (f16 : Nat → Int64) (f17 : Nat → Int64) (f18 : Nat → Int32) (f19 : Nat → Int32) (f20 : Nat → Int32) (f21 : Nat → Int32) (f22 : Nat → Int32) (f23 : Nat → Int32) (f24 : Nat → Int32) (f25 : Nat → Int32) (h_v0_38 : 0 ≤ v0_38 ∧ v0_38 ≤ 1) (h_f1 : (∀ i : Nat, 0 ≤ f1 i ∧ f1 i ≤ 14)) (h_f2 : (∀ i : Nat, 0 ≤ f2 i ∧ f2 i ≤ 13)) (h_f3 : (∀ i : Nat, (-1) ≤ f3 i ∧ f3 i ≤ 3)) (h_f4 : (∀ i : Nat, 0 ≤ f4 i ∧ f4 i ≤ 13)) (h_f5 : (∀ i : Nat, 0 ≤ f5 i ∧ f5 i ≤ 4)) (h_f7 : (∀ i : Nat, 0 ≤ f7 i ∧ f7 i ≤ 3)) (h_f8 : (∀ i : Nat, 0 ≤ f8 i ∧ f8 i ≤ 3)) (h_f9 : (∀ i : Nat, 0 ≤ f9 i ∧ f9 i ≤ 1)) (h_f11 : (∀ i : Nat, (-1) ≤ f11 i ∧ f11 i ≤ 13)) (h_f12 : (∀ i : Nat, (-1) ≤ f12 i ∧ f12 i ≤ 13)) (h_f20 : (∀ i : Nat, 0 ≤ f20 i ∧ f20 i ≤ 3)) (h_f23 : (∀ i : Nat, 0 ≤ f23 i ∧ f23 i ≤ 13)) (hx_0 : f1 (0 : Int32).toNatClampNeg ≤ 0 ∨ 1 ≤ f5 (0 : Int32).toNatClampNeg ∧ (∀ x : Int32, 0 ≤ x → x < f5 (0 : Int32).toNatClampNeg → 1 ≤ f6 x.toNatClampNeg) ∧ (∀ i : Nat, 1 ≤ f6 (f7 i).toNatClampNeg) ∧ (∀ i : Nat, 1 ≤ f6 (f8 i).toNatClampNeg) ∧ (∀ i : Nat, 1 ≤ f6 (f20 i).toNatClampNeg)) : zw (fn_X12_halve w0_34 v0_38 v0_41 v0_42 v0_44 v0_45 f1 f2 f3 f4 f5 f6 f7 f8 f9 f10 f11 f12 f13 f14 f15 f16 f17 f18 f19 f20 f21 f22 f23 f24 f25) (fun r => 0 ≤ r.1 ∧ r.1 ≤ 1 ∧ 0 ≤ r.2.1 ∧ r.2.1 ≤ 14 ∧ (∀ i : Nat, 0 ≤ r.2.2.2.2.2.2.2.1 i ∧ r.2.2.2.2.2.2.2.1 i ≤ 13) ∧ (∀ i : Nat, 0 ≤ r.2.2.2.2.2.2.2.2.1 i ∧ r.2.2.2.2.2.2.2.2.1 i ≤ 3) ∧ (∀ i : Nat, 0 ≤ r.2.2.2.2.2.2.2.2.2.1 i ∧ r.2.2.2.2.2.2.2.2.2.1 i ≤ 1) ∧ (∀ i : Nat, 0 ≤ r.2.2.2.2.2.2.2.2.2.2.2.2.2.1 i ∧ r.2.2.2.2.2.2.2.2.2.2.2.2.2.1 i ≤ 3) ∧ (∀ i : Nat, 0 ≤ r.2.2.2.2.2.2.2.2.2.2.2.2.2.2.1 i ∧ r.2.2.2.2.2.2.2.2.2.2.2.2.2.2.1 i ≤ 13) ∧ (f1 (0 : Int32).toNatClampNeg) ≤ r.2.2.1 + 15 ∧ (-1) ≤ r.2.2.1 ∧ r.1 ≤ (f1 (0 : Int32).toNatClampNeg) ∧ r.1 ≤ v0_38 ∧ r.2.1 ≤ r.2.2.1 + 15 ∧ r.2.2.1 ≤ (-1) ∧ r.2.2.1 < r.1 ∧ r.2.2.1 < r.2.1 ∧ v0_38 ≤ r.2.2.1 + 2 ∧ (r.1 = 0 → r.1 ≤ r.2.1 ∧ r.1 ≤ r.2.2.1 + 1 ∧ r.2.2.2.2.2.1 ≤ v0_44 ∧ v0_44 ≤ r.2.2.2.2.2.1) ∧ (¬ r.1 = 0 → (f1 (0 : Int32).toNatClampNeg) ≤ r.1 + 13 ∧ (f1 (0 : Int32).toNatClampNeg) ≤ v0_38 + 13 ∧ (f5 (0 : Int32).toNatClampNeg) ≤ 4 ∧ (f5 (0 : Int32).toNatClampNeg) ≤ r.1 + 3 ∧ (f5 (0 : Int32).toNatClampNeg) ≤ r.2.2.1 + 5 ∧ (f5 (0 : Int32).toNatClampNeg) ≤ v0_38 + 3 ∧ 1 ≤ (f1 (0 : Int32).toNatClampNeg) ∧ 1 ≤ (f5 (0 : Int32).toNatClampNeg) ∧ 1 ≤ r.1 ∧ 1 ≤ v0_38 ∧ r.1 ≤ (f5 (0 : Int32).toNatClampNeg) ∧ r.2.1 ≤ r.1 + 13 ∧ r.2.1 ≤ v0_38 + 13 ∧ r.2.2.1 + 2 ≤ (f1 (0 : Int32).toNatClampNeg) ∧ r.2.2.1 + 2 ≤ (f5 (0 : Int32).toNatClampNeg) ∧ r.2.2.1 + 2 ≤ r.1 ∧ r.2.2.1 + 2 ≤ v0_38 ∧ v0_38 ≤ (f1 (0 : Int32).toNatClampNeg) ∧ v0_38 ≤ (f5 (0 : Int32).toNatClampNeg) ∧ v0_38 ≤ r.1) ∧ (r.1 = 1 → (f1 (0 : Int32).toNatClampNeg) ≤ r.1 + 13 ∧ (f1 (0 : Int32).toNatClampNeg) ≤ v0_38 + 13 ∧ (f5 (0 : Int32).toNatClampNeg) ≤ 4 ∧ (f5 (0 : Int32).toNatClampNeg) ≤ r.1 + 3 ∧ (f5 (0 : Int32).toNatClampNeg) ≤ r.2.2.1 + 5 ∧ (f5 (0 : Int32).toNatClampNeg) ≤ v0_38 + 3 ∧ 1 ≤ (f1 (0 : Int32).toNatClampNeg) ∧ 1 ≤ (f5 (0 : Int32).toNatClampNeg) ∧ 1 ≤ v0_38 ∧ r.1 ≤ (f5 (0 : Int32).toNatClampNeg) ∧ r.2.1 ≤ r.1 + 13 ∧ r.2.1 ≤ v0_38 + 13 ∧ r.2.2.1 + 2 ≤ (f1 (0 : Int32).toNatClampNeg) ∧ r.2.2.1 + 2 ≤ (f5 (0 : Int32).toNatClampNeg) ∧ r.2.2.1 + 2 ≤ r.1 ∧ r.2.2.1 + 2 ≤ v0_38 ∧ v0_38 ≤ (f1 (0 : Int32).toNatClampNeg) ∧ v0_38 ≤ (f5 (0 : Int32).toNatClampNeg) ∧ v0_38 ≤ r.1) ∧ (¬ r.1 = 1 → r.1 ≤ 0 ∧ r.1 ≤ r.2.1 ∧ r.1 ≤ r.2.2.1 + 1 ∧ r.2.2.2.2.2.1 ≤ v0_44 ∧ v0_44 ≤ r.2.2.2.2.2.1) ∧ (∀ i : Nat, r.2.2.2.2.2.2.2.2.1 i = f7 i ∨ r.2.2.2.2.2.2.2.2.1 i = f8 i ∨ r.2.2.2.2.2.2.2.2.1 i = f20 i ∨ 0 ≤ r.2.2.2.2.2.2.2.2.1 i ∧ r.2.2.2.2.2.2.2.2.1 i < f5 (0 : Int32).toNatClampNeg) ∧ (∀ i : Nat, r.2.2.2.2.2.2.2.2.2.2.2.2.2.1 i = f7 i ∨ r.2.2.2.2.2.2.2.2.2.2.2.2.2.1 i = f8 i ∨ r.2.2.2.2.2.2.2.2.2.2.2.2.2.1 i = f20 i ∨ 0 ≤ r.2.2.2.2.2.2.2.2.2.2.2.2.2.1 i ∧ r.2.2.2.2.2.2.2.2.2.2.2.2.2.1 i < f5 (0 : Int32).toNatClampNeg)) := by
  unfold fn_X12_halve
  refine zw_zb0 (sf_X12_laysFree f1 f2 f3 f4 (by grind [zu_at, zu_atL]) (by grind [zu_at, zu_atL]) (by grind [zu_at, zu_atL]) (by grind [zu_at, zu_atL])) (fun o_1 ho_1 => ?_)
  refine zw_zb0 (sf_X12_isThere v0_38 f1 (by grind [zu_at, zu_atL]) (by grind [zu_at, zu_atL])) (fun o_5 ho_5 => ?_)
  refine zw_if (fun c1 => ?_) (fun c1 => ?_)
  · refine zw_some ?_
    first | trivial | (try dsimp only); grind [zu_at, zu_atL]
  refine zw_zb0 (sf_X12_finest f5 f6 (by grind [zu_at, zu_atL]) (by grind [zu_at, zu_atL]) (by grind [zu_at, zu_atL])) (fun o_10 ho_10 => ?_)
  refine zw_zb0 (sf_X12_triesHand f1 f7 f8 (by grind [zu_at, zu_atL]) (by grind [zu_at, zu_atL]) (by grind [zu_at, zu_atL])) (fun o_14 ho_14 => ?_)
  refine zw_zl32 (fun s_18 => (∀ i : Nat, 0 ≤ s_18.2.1 i ∧ s_18.2.1 i ≤ 3) ∧ (∀ i : Nat, 0 ≤ s_18.2.2 i ∧ s_18.2.2 i ≤ 1) ∧ 0 ≤ s_18.1 ∧ o_5 ≤ s_18.1 + 1 ∧ s_18.1 ≤ o_1.1 ∧ v0_38 ≤ s_18.1 + 1 ∧ (∀ i : Nat, s_18.2.1 i = f7 i ∨ s_18.2.1 i = f8 i ∨ s_18.2.1 i = f20 i ∨ 0 ≤ s_18.2.1 i ∧ s_18.2.1 i < f5 (0 : Int32).toNatClampNeg)) (fun s_18 => 14 - s_18.1) (by (try dsimp only); grind [zu_at, zu_atL]) (by (try dsimp only); grind [zu_at, zu_atL]) (fun s_18 back_18 Hback_18 hback_18 => ?_)
  refine zw_if (fun c2 => ?_) (fun c2 => ?_)
  · refine zw_zb0 (sf_X12_passes (-1) w0_34 f1 f10 f11 f12 f13 f14 f15 f16 s_18.2.1 f6 f17 f18 f19 (by grind [zu_at, zu_atL]) (by grind [zu_at, zu_atL]) (by grind [zu_at, zu_atL]) (by grind [zu_at, zu_atL]) (by grind [zu_at, zu_atL])) (fun o_20 ho_20 => ?_)
    refine zw_if (fun c3 => ?_) (fun c3 => ?_)
    · refine zw_some ?_
      first | trivial | (try dsimp only); grind [zu_at, zu_atL]
    refine zw_zb0 (sf_X12_keepsTried f1 s_18.2.1 f20 f21 f11 f12 f22 (by grind [zu_at, zu_atL]) (by grind [zu_at, zu_atL]) (by grind [zu_at, zu_atL]) (by grind [zu_at, zu_atL]) (by grind [zu_at, zu_atL])) (fun o_25 ho_25 => ?_)
    refine zw_zl32 (fun s_29 => (∀ i : Nat, 0 ≤ s_29.2.2.2.2.2.2.2.1 i ∧ s_29.2.2.2.2.2.2.2.1 i ≤ 3) ∧ (∀ i : Nat, 0 ≤ s_29.2.2.2.2.2.2.2.2.2.1 i ∧ s_29.2.2.2.2.2.2.2.2.2.1 i ≤ 3) ∧ (∀ i : Nat, 0 ≤ s_29.2.2.2.2.2.2.2.2.2.2.1 i ∧ s_29.2.2.2.2.2.2.2.2.2.2.1 i ≤ 1) ∧ (∀ i : Nat, 0 ≤ s_29.2.2.2.2.2.2.2.2.2.2.2.1 i ∧ s_29.2.2.2.2.2.2.2.2.2.2.2.1 i ≤ 13) ∧ 0 ≤ s_29.1 ∧ o_20.1 ≤ s_29.1 + 1 ∧ o_20.2.2.1 ≤ s_29.1 ∧ o_5 ≤ s_29.1 + 1 ∧ s_29.1 ≤ (f5 (0 : Int32).toNatClampNeg) ∧ v0_38 ≤ s_29.1 + 1 ∧ (∀ i : Nat, s_29.2.2.2.2.2.2.2.1 i = f7 i ∨ s_29.2.2.2.2.2.2.2.1 i = f8 i ∨ s_29.2.2.2.2.2.2.2.1 i = f20 i ∨ 0 ≤ s_29.2.2.2.2.2.2.2.1 i ∧ s_29.2.2.2.2.2.2.2.1 i < f5 (0 : Int32).toNatClampNeg) ∧ (∀ i : Nat, s_29.2.2.2.2.2.2.2.2.2.1 i = f7 i ∨ s_29.2.2.2.2.2.2.2.2.2.1 i = f8 i ∨ s_29.2.2.2.2.2.2.2.2.2.1 i = f20 i ∨ 0 ≤ s_29.2.2.2.2.2.2.2.2.2.1 i ∧ s_29.2.2.2.2.2.2.2.2.2.1 i < f5 (0 : Int32).toNatClampNeg)) (fun s_29 => 4 - s_29.1) (by (try dsimp only); grind [zu_at, zu_atL]) (by (try dsimp only); grind [zu_at, zu_atL]) (fun s_29 back_29 Hback_29 hback_29 => ?_)
    refine zw_if (fun c4 => ?_) (fun c4 => ?_)
    · refine zw_some ?_
      first | trivial | (try dsimp only); grind [zu_at, zu_atL]
    refine zw_if (fun c5 => ?_) (fun c5 => ?_)
    · exact hback_29 _ (by grind [zu_at, zu_atL]) (by grind [zu_at, zu_atL]) (by grind [zu_at, zu_atL])
    refine zw_zb0 (sf_X12_halvesBy s_29.1 o_1.1 (-1) w0_34 s_29.2.1 s_29.2.2.1 s_29.2.2.2.1 s_29.2.2.2.2.1 s_29.2.2.2.2.2.2.2.2.2.2.1 s_29.2.2.2.2.2.2.2.2.2.2.2.1 s_29.2.2.2.2.2.2.2.2.2.2.2.2.1 s_29.2.2.2.2.2.2.2.2.2.2.2.2.2 f1 s_29.2.2.2.2.2.2.2.2.2.1 s_29.2.2.2.2.2.2.2.1 o_1.2 f2 f10 f11 f12 s_29.2.2.2.2.2.1 f14 f15 s_29.2.2.2.2.2.2.1 f6 s_29.2.2.2.2.2.2.2.2.1 f18 f19 f21 f22 (by grind [zu_at, zu_atL]) (by grind [zu_at, zu_atL]) (by grind [zu_at, zu_atL]) (by grind [zu_at, zu_atL]) (by grind [zu_at, zu_atL]) (by grind [zu_at, zu_atL]) (by grind [zu_at, zu_atL]) (by grind [zu_at, zu_atL]) (by grind [zu_at, zu_atL]) (by grind [zu_at, zu_atL]) (by grind [zu_at, zu_atL]) (by grind [zu_at, zu_atL]) (by grind [zu_at, zu_atL]) (by grind [zu_at, zu_atL])) (fun o_32 ho_32 => ?_)
    exact hback_29 _ (by grind [zu_at, zu_atL]) (by grind [zu_at, zu_atL]) (by grind [zu_at, zu_atL])
  refine zw_zg32 14 (by decide) (by grind [zu_at, zu_atL]) ?_
  refine zw_zb0 (sf_X12_triesGroup (o_1.2 s_18.1.toNatClampNeg) o_10 f1 f2 s_18.2.1 (by grind [zu_at, zu_atL]) (by grind [zu_at, zu_atL]) (by grind [zu_at, zu_atL]) (by grind [zu_at, zu_atL])) (fun o_37 ho_37 => ?_)
  exact hback_18 _ (by grind [zu_at, zu_atL]) (by grind [zu_at, zu_atL]) (by grind [zu_at, zu_atL])
set_option maxHeartbeats 1000000 in
theorem sf_X12_halves (p1 : Int32) (v0_30 : Int32) (v0_33 : Int32) (w0_34 : Int64) (v0_38 : Int32) (v0_41 : Int32) (v0_42 : Int32) (v0_44 : Int32) (v0_45 : Int32) (f1 : Nat → Int32) (f2 : Nat → Int32) (f3 : Nat → Int32) (f4 : Nat → Int32) (f5 : Nat → Int32) (f6 : Nat → Int32) (f7 : Nat → Int32) (f8 : Nat → Int32) (f9 : Nat → Int32) (f10 : Nat → Int32) (f11 : Nat → Int32) (f12 : Nat → Int32) (f13 : Nat → Int64) (f14 : Nat → Int64) (f15 : Nat → Int64) (f16 : Nat → Int64) (f17 : Nat → Int64) (f18 : Nat → Int32) (f19 : Nat → Int32) (f20 : Nat → Int32) (f21 : Nat → Int32) (f22 : Nat → Int32) (f23 : Nat → Int32) (f24 : Nat → Int32) (f25 : Nat → Int32) (h_v0_30 : 0 ≤ v0_30 ∧ v0_30 ≤ 14) (h_v0_38 : 0 ≤ v0_38 ∧ v0_38 ≤ 1) (h_f1 : (∀ i : Nat, 0 ≤ f1 i ∧ f1 i ≤ 14)) (h_f2 : (∀ i : Nat, 0 ≤ f2 i ∧ f2 i ≤ 13)) (h_f3 : (∀ i : Nat, (-1) ≤ f3 i ∧ f3 i ≤ 3)) (h_f4 : (∀ i : Nat, 0 ≤ f4 i ∧ f4 i ≤ 13)) (h_f5 : (∀ i : Nat, 0 ≤ f5 i ∧ f5 i ≤ 4)) (h_f7 : (∀ i : Nat, 0 ≤ f7 i ∧ f7 i ≤ 3)) (h_f8 : (∀ i : Nat, 0 ≤ f8 i ∧ f8 i ≤ 3)) (h_f9 : (∀ i : Nat, 0 ≤ f9 i ∧ f9 i ≤ 1)) (h_f11 : (∀ i : Nat, (-1) ≤ f11 i ∧ f11 i ≤ 13)) (h_f12 : (∀ i : Nat, (-1) ≤ f12 i ∧ f12 i ≤ 13)) (h_f20 : (∀ i : Nat, 0 ≤ f20 i ∧ f20 i ≤ 3)) (h_f23 : (∀ i : Nat, 0 ≤ f23 i ∧ f23 i ≤ 13)) (hx_0 : f1 (0 : Int32).toNatClampNeg ≤ 0 ∨ 1 ≤ f5 (0 : Int32).toNatClampNeg ∧ (∀ x : Int32, 0 ≤ x → x < f5 (0 : Int32).toNatClampNeg → 1 ≤ f6 x.toNatClampNeg) ∧ (∀ i : Nat, 1 ≤ f6 (f7 i).toNatClampNeg) ∧ (∀ i : Nat, 1 ≤ f6 (f8 i).toNatClampNeg) ∧ (∀ i : Nat, 1 ≤ f6 (f20 i).toNatClampNeg)) : zw (fn_X12_halves p1 v0_30 v0_33 w0_34 v0_38 v0_41 v0_42 v0_44 v0_45 f1 f2 f3 f4 f5 f6 f7 f8 f9 f10 f11 f12 f13 f14 f15 f16 f17 f18 f19 f20 f21 f22 f23 f24 f25) (fun r => 0 ≤ r.2.1 ∧ r.2.1 ≤ 14 ∧ (∀ i : Nat, 0 ≤ r.2.2.2.2.2.2.2.1 i ∧ r.2.2.2.2.2.2.2.1 i ≤ 13) ∧ (∀ i : Nat, 0 ≤ r.2.2.2.2.2.2.2.2.1 i ∧ r.2.2.2.2.2.2.2.2.1 i ≤ 3) ∧ (∀ i : Nat, 0 ≤ r.2.2.2.2.2.2.2.2.2.1 i ∧ r.2.2.2.2.2.2.2.2.2.1 i ≤ 1) ∧ (∀ i : Nat, 0 ≤ r.2.2.2.2.2.2.2.2.2.2.2.2.2.1 i ∧ r.2.2.2.2.2.2.2.2.2.2.2.2.2.1 i ≤ 3) ∧ (∀ i : Nat, 0 ≤ r.2.2.2.2.2.2.2.2.2.2.2.2.2.2.1 i ∧ r.2.2.2.2.2.2.2.2.2.2.2.2.2.2.1 i ≤ 13) ∧ (¬ r.1 = (-1) → (f1 (0 : Int32).toNatClampNeg) ≤ r.2.2.1 + 15 ∧ (f1 (0 : Int32).toNatClampNeg) ≤ v0_38 + 13 ∧ (f5 (0 : Int32).toNatClampNeg) ≤ 4 ∧ (f5 (0 : Int32).toNatClampNeg) ≤ r.2.2.1 + 5 ∧ (f5 (0 : Int32).toNatClampNeg) ≤ v0_38 + 3 ∧ 1 ≤ (f1 (0 : Int32).toNatClampNeg) ∧ 1 ≤ (f5 (0 : Int32).toNatClampNeg) ∧ (-2) ≤ p1 ∧ (-1) ≤ r.2.2.1 ∧ 1 ≤ v0_38 ∧ p1 ≤ 13 ∧ p1 ≤ r.2.2.1 + 14 ∧ p1 ≤ v0_38 + 12 ∧ r.2.1 ≤ r.2.2.1 + 15 ∧ r.2.1 ≤ v0_38 + 13 ∧ r.2.2.1 + 2 ≤ (f1 (0 : Int32).toNatClampNeg) ∧ r.2.2.1 + 2 ≤ (f5 (0 : Int32).toNatClampNeg) ∧ r.2.2.1 ≤ (-1) ∧ r.2.2.1 ≤ p1 + 1 ∧ r.2.2.1 < r.2.1 ∧ r.2.2.1 < v0_30 ∧ r.2.2.1 + 2 ≤ v0_38 ∧ v0_30 ≤ r.2.2.1 + 15 ∧ v0_30 ≤ v0_38 + 13 ∧ v0_38 ≤ (f1 (0 : Int32).toNatClampNeg) ∧ v0_38 ≤ (f5 (0 : Int32).toNatClampNeg) ∧ v0_38 ≤ p1 + 3 ∧ v0_38 ≤ r.2.2.1 + 2) ∧ (∀ i : Nat, r.2.2.2.2.2.2.2.2.1 i = f7 i ∨ r.2.2.2.2.2.2.2.2.1 i = f8 i ∨ r.2.2.2.2.2.2.2.2.1 i = f20 i ∨ 0 ≤ r.2.2.2.2.2.2.2.2.1 i ∧ r.2.2.2.2.2.2.2.2.1 i < f5 (0 : Int32).toNatClampNeg) ∧ (∀ i : Nat, r.2.2.2.2.2.2.2.2.2.2.2.2.2.1 i = f7 i ∨ r.2.2.2.2.2.2.2.2.2.2.2.2.2.1 i = f8 i ∨ r.2.2.2.2.2.2.2.2.2.2.2.2.2.1 i = f20 i ∨ 0 ≤ r.2.2.2.2.2.2.2.2.2.2.2.2.2.1 i ∧ r.2.2.2.2.2.2.2.2.2.2.2.2.2.1 i < f5 (0 : Int32).toNatClampNeg)) := by
  unfold fn_X12_halves
  refine zw_zj (fun _ => (-2) ≤ p1 ∧ p1 ≤ 13) (fun s_1 Hj_1 => ?_) (fun j_1 hj_1 => ?_)
  · refine zw_zb0 (sf_X12_halve w0_34 v0_38 v0_41 v0_42 v0_44 v0_45 f1 f2 f3 f4 f5 f6 f7 f8 f9 f10 f11 f12 f13 f14 f15 f16 f17 f18 f19 f20 f21 f22 f23 f24 f25 (by grind [zu_at, zu_atL]) (by grind [zu_at, zu_atL]) (by grind [zu_at, zu_atL]) (by grind [zu_at, zu_atL]) (by grind [zu_at, zu_atL]) (by grind [zu_at, zu_atL]) (by grind [zu_at, zu_atL]) (by grind [zu_at, zu_atL]) (by grind [zu_at, zu_atL]) (by grind [zu_at, zu_atL]) (by grind [zu_at, zu_atL]) (by grind [zu_at, zu_atL]) (by grind [zu_at, zu_atL]) (by grind [zu_at, zu_atL])) (fun o_2 ho_2 => ?_)
    refine zw_if (fun c1 => ?_) (fun c1 => ?_)
    · refine zw_some ?_
      first | trivial | (try dsimp only); grind [zu_at, zu_atL]
    refine zw_if (fun c2 => ?_) (fun c2 => ?_)
    · refine zw_some ?_
      first | trivial | (try dsimp only); grind [zu_at, zu_atL]
    refine zw_if (fun c3 => ?_) (fun c3 => ?_)
    · refine zw_some ?_
      first | trivial | (try dsimp only); grind [zu_at, zu_atL]
    refine zw_zg32 14 (by decide) (by grind [zu_at, zu_atL]) ?_
    refine zw_some ?_
    first | trivial | (try dsimp only); grind [zu_at, zu_atL]
  refine zw_if (fun c4 => ?_) (fun c4 => ?_)
  · exact hj_1 _ (by grind [zu_at, zu_atL])
  refine zw_if (fun c5 => ?_) (fun c5 => ?_)
  · exact hj_1 _ (by grind [zu_at, zu_atL])
  refine zw_zb0 (sf_X12_isNumber p1 f1 (by grind [zu_at, zu_atL])) (fun o_12 ho_12 => ?_)
  refine zw_if (fun c6 => ?_) (fun c6 => ?_)
  · refine zw_some ?_
    first | trivial | (try dsimp only); grind [zu_at, zu_atL]
  exact hj_1 _ (by grind [zu_at, zu_atL])
set_option maxHeartbeats 1000000 in
theorem sf_X12_laysSingle (w0_34 : Int64) (v0_41 : Int32) (v0_42 : Int32) (f1 : Nat → Int32) (f2 : Nat → Int32) (f3 : Nat → Int32) (f4 : Nat → Int32) (f5 : Nat → Int32) (f6 : Nat → Int32) (f7 : Nat → Int32) (f8 : Nat → Int32) (f9 : Nat → Int32) (f10 : Nat → Int32) (f11 : Nat → Int32) (f12 : Nat → Int32) (f13 : Nat → Int64) (f14 : Nat → Int64) (f15 : Nat → Int64) (f16 : Nat → Int64) (f17 : Nat → Int32) (f18 : Nat → Int64) (f19 : Nat → Int32) (f20 : Nat → Int32) (h_f1 : (∀ i : Nat, 0 ≤ f1 i ∧ f1 i ≤ 14)) (h_f2 : (∀ i : Nat, 0 ≤ f2 i ∧ f2 i ≤ 13)) (h_f3 : (∀ i : Nat, (-1) ≤ f3 i ∧ f3 i ≤ 3)) (h_f4 : (∀ i : Nat, 0 ≤ f4 i ∧ f4 i ≤ 13)) (h_f5 : (∀ i : Nat, 0 ≤ f5 i ∧ f5 i ≤ 3)) (h_f6 : (∀ i : Nat, 0 ≤ f6 i ∧ f6 i ≤ 3)) (h_f8 : (∀ i : Nat, (-1) ≤ f8 i ∧ f8 i ≤ 13)) (h_f9 : (∀ i : Nat, (-1) ≤ f9 i ∧ f9 i ≤ 13)) (h_f11 : (∀ i : Nat, 0 ≤ f11 i ∧ f11 i ≤ 4)) (hr_0 : 1 ≤ (f11 (0 : Int32).toNatClampNeg)) (hx_0 : (∀ x : Int32, 0 ≤ x → x < f11 (0 : Int32).toNatClampNeg → 1 ≤ f17 x.toNatClampNeg)) (hx_1 : (∀ i : Nat, 1 ≤ f17 (f5 i).toNatClampNeg)) (hx_2 : (∀ i : Nat, 1 ≤ f17 (f6 i).toNatClampNeg)) : zw (fn_X12_laysSingle w0_34 v0_41 v0_42 f1 f2 f3 f4 f5 f6 f7 f8 f9 f10 f11 f12 f13 f14 f15 f16 f17 f18 f19 f20) (fun r => 0 ≤ r.1 ∧ r.1 ≤ 14 ∧ (-1) ≤ r.2.2.2.2.2.2.1 ∧ r.2.2.2.2.2.2.1 ≤ 13 ∧ (-1) ≤ r.2.2.2.2.2.2.2.1 ∧ r.2.2.2.2.2.2.2.1 ≤ 3 ∧ (∀ i : Nat, 0 ≤ r.2.2.2.2.2.2.2.2.1 i ∧ r.2.2.2.2.2.2.2.2.1 i ≤ 13) ∧ (∀ i : Nat, 0 ≤ r.2.2.2.2.2.2.2.2.2.1 i ∧ r.2.2.2.2.2.2.2.2.2.1 i ≤ 3) ∧ (f1 (0 : Int32).toNatClampNeg) ≤ r.2.1 + 15 ∧ (-1) ≤ r.2.1 ∧ r.1 ≤ r.2.1 + 15 ∧ r.2.1 < (f1 (0 : Int32).toNatClampNeg) ∧ r.2.1 + 2 ≤ (f11 (0 : Int32).toNatClampNeg) ∧ r.2.1 ≤ (-1) ∧ r.2.1 < r.1 ∧ r.2.1 ≤ r.2.2.2.2.2.2.1 ∧ r.2.1 ≤ r.2.2.2.2.2.2.2.1 ∧ r.2.2.2.2.2.2.1 ≤ r.1 + 12 ∧ r.2.2.2.2.2.2.1 ≤ r.2.1 + 14 ∧ r.2.2.2.2.2.2.1 ≤ r.2.2.2.2.2.2.2.1 + 13 ∧ r.2.2.2.2.2.2.2.1 < (f11 (0 : Int32).toNatClampNeg) ∧ r.2.2.2.2.2.2.2.1 ≤ r.1 + 2 ∧ r.2.2.2.2.2.2.2.1 ≤ r.2.1 + 4 ∧ r.2.2.2.2.2.2.2.1 ≤ r.2.2.2.2.2.2.1 + 3 ∧ (∀ i : Nat, r.2.2.2.2.2.2.2.2.2.1 i = f5 i ∨ r.2.2.2.2.2.2.2.2.2.1 i = f6 i ∨ 0 ≤ r.2.2.2.2.2.2.2.2.2.1 i ∧ r.2.2.2.2.2.2.2.2.2.1 i < f11 (0 : Int32).toNatClampNeg) ∧ (r.2.2.2.2.2.2.1 = (-1) ∨ 0 ≤ r.2.2.2.2.2.2.2.1 ∧ r.2.2.2.2.2.2.2.1 < f11 (0 : Int32).toNatClampNeg)) := by
  unfold fn_X12_laysSingle
  refine zw_zb0 (sf_X12_laysFree f1 f2 f3 f4 (by grind [zu_at, zu_atL]) (by grind [zu_at, zu_atL]) (by grind [zu_at, zu_atL]) (by grind [zu_at, zu_atL])) (fun o_1 ho_1 => ?_)
  refine zw_zb0 (sf_X12_triesHand f1 f5 f6 (by grind [zu_at, zu_atL]) (by grind [zu_at, zu_atL]) (by grind [zu_at, zu_atL])) (fun o_5 ho_5 => ?_)
  refine zw_zb0 (sf_X12_costTried f7 f1 f8 o_5 f9 f10 (by grind [zu_at, zu_atL]) (by grind [zu_at, zu_atL]) (by grind [zu_at, zu_atL]) (by grind [zu_at, zu_atL])) (fun o_9 ho_9 => ?_)
  refine zw_zl32 (fun s_13 => (∀ i : Nat, 0 ≤ s_13.2.2.2.2.2.2.2.2.2.2.1 i ∧ s_13.2.2.2.2.2.2.2.2.2.2.1 i ≤ 3) ∧ 0 ≤ s_13.2.1 ∧ (-1) ≤ s_13.2.2.2.2.2.2.1 ∧ (-1) ≤ s_13.2.2.2.2.2.2.2.1 ∧ s_13.1 ≤ o_9 ∧ s_13.2.1 ≤ o_1.1 ∧ s_13.2.2.2.2.2.2.1 ≤ 13 ∧ s_13.2.2.2.2.2.2.1 ≤ s_13.2.1 + 12 ∧ s_13.2.2.2.2.2.2.1 ≤ s_13.2.2.2.2.2.2.2.1 + 13 ∧ s_13.2.2.2.2.2.2.2.1 < (f11 (0 : Int32).toNatClampNeg) ∧ s_13.2.2.2.2.2.2.2.1 ≤ 3 ∧ s_13.2.2.2.2.2.2.2.1 ≤ s_13.2.1 + 2 ∧ s_13.2.2.2.2.2.2.2.1 ≤ s_13.2.2.2.2.2.2.1 + 3 ∧ (∀ i : Nat, s_13.2.2.2.2.2.2.2.2.2.2.1 i = f5 i ∨ s_13.2.2.2.2.2.2.2.2.2.2.1 i = f6 i ∨ 0 ≤ s_13.2.2.2.2.2.2.2.2.2.2.1 i ∧ s_13.2.2.2.2.2.2.2.2.2.2.1 i < f11 (0 : Int32).toNatClampNeg)) (fun s_13 => 14 - s_13.2.1) (by (try dsimp only); grind [zu_at, zu_atL]) (by (try dsimp only); grind [zu_at, zu_atL]) (fun s_13 back_13 Hback_13 hback_13 => ?_)
  refine zw_if (fun c1 => ?_) (fun c1 => ?_)
  · refine zw_some ?_
    first | trivial | (try dsimp only); grind [zu_at, zu_atL]
  refine zw_zl32 (fun s_15 => (∀ i : Nat, 0 ≤ s_15.2.2.2.2.2.2.2.2.2.2.1 i ∧ s_15.2.2.2.2.2.2.2.2.2.2.1 i ≤ 3) ∧ 0 ≤ s_15.2.1 ∧ (-1) ≤ s_15.2.2.2.2.2.2.1 ∧ (-1) ≤ s_15.2.2.2.2.2.2.2.1 ∧ s_13.2.2.2.2.2.2.1 ≤ s_15.2.2.2.2.2.2.1 + 13 ∧ s_13.2.2.2.2.2.2.1 ≤ s_15.2.2.2.2.2.2.2.1 + 13 ∧ s_13.2.2.2.2.2.2.2.1 ≤ s_15.2.2.2.2.2.2.1 + 3 ∧ s_13.2.2.2.2.2.2.2.1 ≤ s_15.2.2.2.2.2.2.2.1 + 3 ∧ s_15.1 ≤ s_13.1 ∧ s_15.2.1 ≤ (f11 (0 : Int32).toNatClampNeg) ∧ s_15.2.1 ≤ 4 ∧ s_15.2.2.2.2.2.2.1 ≤ 13 ∧ s_15.2.2.2.2.2.2.1 ≤ s_15.2.2.2.2.2.2.2.1 + 13 ∧ s_15.2.2.2.2.2.2.2.1 < (f11 (0 : Int32).toNatClampNeg) ∧ s_15.2.2.2.2.2.2.2.1 ≤ 3 ∧ s_15.2.2.2.2.2.2.2.1 ≤ s_15.2.2.2.2.2.2.1 + 3 ∧ (∀ i : Nat, s_15.2.2.2.2.2.2.2.2.2.2.1 i = f5 i ∨ s_15.2.2.2.2.2.2.2.2.2.2.1 i = f6 i ∨ 0 ≤ s_15.2.2.2.2.2.2.2.2.2.2.1 i ∧ s_15.2.2.2.2.2.2.2.2.2.2.1 i < f11 (0 : Int32).toNatClampNeg)) (fun s_15 => 4 - s_15.2.1) (by (try dsimp only); grind [zu_at, zu_atL]) (by (try dsimp only); grind [zu_at, zu_atL]) (fun s_15 back_15 Hback_15 hback_15 => ?_)
  refine zw_if (fun c2 => ?_) (fun c2 => ?_)
  · exact hback_13 _ (by grind [zu_at, zu_atL]) (by grind [zu_at, zu_atL]) (by grind [zu_at, zu_atL])
  refine zw_zg32 14 (by decide) (by grind [zu_at, zu_atL]) ?_
  refine zw_zg32 14 (by decide) (by grind [zu_at, zu_atL]) ?_
  refine zw_if (fun c3 => ?_) (fun c3 => ?_)
  · exact hback_15 _ (by grind [zu_at, zu_atL]) (by grind [zu_at, zu_atL]) (by grind [zu_at, zu_atL])
  refine zw_zb0 (sf_X12_triesHand f1 f5 s_15.2.2.2.2.2.2.2.2.2.2.1 (by grind [zu_at, zu_atL]) (by grind [zu_at, zu_atL]) (by grind [zu_at, zu_atL])) (fun o_20 ho_20 => ?_)
  refine zw_zb0 (sf_X12_triesGroup (o_1.2 s_13.2.1.toNatClampNeg) s_15.2.1 f1 f2 o_20 (by grind [zu_at, zu_atL]) (by grind [zu_at, zu_atL]) (by grind [zu_at, zu_atL]) (by grind [zu_at, zu_atL])) (fun o_24 ho_24 => ?_)
  refine zw_zb0 (sf_X12_passes (-1) w0_34 f1 f12 f8 f9 s_15.2.2.2.2.2.2.2.2.1 f14 f15 s_15.2.2.2.2.2.2.2.2.2.1 o_24 f17 s_15.2.2.2.2.2.2.2.2.2.2.2 f19 f20 (by grind [zu_at, zu_atL]) (by grind [zu_at, zu_atL]) (by grind [zu_at, zu_atL]) (by grind [zu_at, zu_atL]) (by grind [zu_at, zu_atL])) (fun o_28 ho_28 => ?_)
  refine zw_if (fun c4 => ?_) (fun c4 => ?_)
  · exact hback_15 _ (by grind [zu_at, zu_atL]) (by grind [zu_at, zu_atL]) (by grind [zu_at, zu_atL])
  refine zw_zb0 (sf_X12_costTried f7 f1 f8 o_24 f9 f10 (by grind [zu_at, zu_atL]) (by grind [zu_at, zu_atL]) (by grind [zu_at, zu_atL]) (by grind [zu_at, zu_atL])) (fun o_33 ho_33 => ?_)
  refine zw_zj (fun s_37 => 0 ≤ s_37 ∧ o_28.1 ≤ s_37 + 1 ∧ o_28.2.2.1 ≤ s_37 ∧ s_37 ≤ 1 ∧ s_37 ≤ o_28.1 ∧ s_37 ≤ o_28.2.2.1 + 1) (fun s_37 Hj_37 => ?_) (fun j_37 hj_37 => ?_)
  · refine zw_if (fun c5 => ?_) (fun c5 => ?_)
    · refine zw_zg32 14 (by decide) (by grind [zu_at, zu_atL]) ?_
      exact hback_15 _ (by grind [zu_at, zu_atL]) (by grind [zu_at, zu_atL]) (by grind [zu_at, zu_atL])
    exact hback_15 _ (by grind [zu_at, zu_atL]) (by grind [zu_at, zu_atL]) (by grind [zu_at, zu_atL])
  refine zw_if (fun c6 => ?_) (fun c6 => ?_)
  · exact hj_37 _ (by grind [zu_at, zu_atL])
  exact hj_37 _ (by grind [zu_at, zu_atL])
set_option maxHeartbeats 1000000 in
theorem sf_X12_single (p1 : Int32) (v0_30 : Int32) (v0_33 : Int32) (w0_34 : Int64) (v0_38 : Int32) (v0_41 : Int32) (v0_42 : Int32) (v0_50 : Int32) (v0_51 : Int32) (v0_52 : Int32) (v0_53 : Int32) (f1 : Nat → Int32) (f2 : Nat → Int32) (f3 : Nat → Int32) (f4 : Nat → Int32) (f5 : Nat → Int32) (f6 : Nat → Int32) (f7 : Nat → Int32) (f8 : Nat → Int32) (f9 : Nat → Int32) (f10 : Nat → Int32) (f11 : Nat → Int32) (f12 : Nat → Int32) (f13 : Nat → Int64) (f14 : Nat → Int64) (f15 : Nat → Int64) (f16 : Nat → Int64) (f17 : Nat → Int32) (f18 : Nat → Int64) (f19 : Nat → Int32) (f20 : Nat → Int32) (h_v0_30 : 0 ≤ v0_30 ∧ v0_30 ≤ 14) (h_v0_38 : 0 ≤ v0_38 ∧ v0_38 ≤ 1) (h_v0_52 : (-1) ≤ v0_52 ∧ v0_52 ≤ 13) (h_v0_53 : (-1) ≤ v0_53 ∧ v0_53 ≤ 3) (h_f1 : (∀ i : Nat, 0 ≤ f1 i ∧ f1 i ≤ 14)) (h_f2 : (∀ i : Nat, 0 ≤ f2 i ∧ f2 i ≤ 13)) (h_f3 : (∀ i : Nat, (-1) ≤ f3 i ∧ f3 i ≤ 3)) (h_f4 : (∀ i : Nat, 0 ≤ f4 i ∧ f4 i ≤ 13)) (h_f5 : (∀ i : Nat, 0 ≤ f5 i ∧ f5 i ≤ 3)) (h_f6 : (∀ i : Nat, 0 ≤ f6 i ∧ f6 i ≤ 3)) (h_f8 : (∀ i : Nat, (-1) ≤ f8 i ∧ f8 i ≤ 13)) (h_f9 : (∀ i : Nat, (-1) ≤ f9 i ∧ f9 i ≤ 13)) (h_f11 : (∀ i : Nat, 0 ≤ f11 i ∧ f11 i ≤ 4)) (hx_0 : f1 (0 : Int32).toNatClampNeg ≤ 0 ∨ 1 ≤ f11 (0 : Int32).toNatClampNeg ∧ (∀ x : Int32, 0 ≤ x → x < f11 (0 : Int32).toNatClampNeg → 1 ≤ f17 x.toNatClampNeg) ∧ (∀ i : Nat, 1 ≤ f17 (f5 i).toNatClampNeg) ∧ (∀ i : Nat, 1 ≤ f17 (f6 i).toNatClampNeg)) : zw (fn_X12_single p1 v0_30 v0_33 w0_34 v0_38 v0_41 v0_42 v0_50 v0_51 v0_52 v0_53 f1 f2 f3 f4 f5 f6 f7 f8 f9 f10 f11 f12 f13 f14 f15 f16 f17 f18 f19 f20) (fun r => 0 ≤ r.2.1 ∧ r.2.1 ≤ 14 ∧ (-1) ≤ r.2.2.2.2.2.2.2.1 ∧ r.2.2.2.2.2.2.2.1 ≤ 13 ∧ (-1) ≤ r.2.2.2.2.2.2.2.2.1 ∧ r.2.2.2.2.2.2.2.2.1 ≤ 3 ∧ (∀ i : Nat, 0 ≤ r.2.2.2.2.2.2.2.2.2.1 i ∧ r.2.2.2.2.2.2.2.2.2.1 i ≤ 13) ∧ (∀ i : Nat, 0 ≤ r.2.2.2.2.2.2.2.2.2.2.1 i ∧ r.2.2.2.2.2.2.2.2.2.2.1 i ≤ 3) ∧ (¬ r.1 = (-1) → (f1 (0 : Int32).toNatClampNeg) ≤ 14 ∧ (f1 (0 : Int32).toNatClampNeg) ≤ r.2.2.1 + 15 ∧ (f1 (0 : Int32).toNatClampNeg) ≤ v0_38 + 13 ∧ (f11 (0 : Int32).toNatClampNeg) ≤ 4 ∧ (f11 (0 : Int32).toNatClampNeg) ≤ r.2.2.1 + 5 ∧ (f11 (0 : Int32).toNatClampNeg) ≤ v0_38 + 3 ∧ 1 ≤ (f1 (0 : Int32).toNatClampNeg) ∧ 1 ≤ (f11 (0 : Int32).toNatClampNeg) ∧ 0 ≤ p1 ∧ (-1) ≤ r.2.2.1 ∧ 1 ≤ v0_38 ∧ p1 ≤ 3 ∧ p1 ≤ r.2.2.1 + 4 ∧ p1 ≤ v0_38 + 2 ∧ r.2.1 ≤ r.2.2.1 + 15 ∧ r.2.1 ≤ v0_38 + 13 ∧ r.2.2.1 + 2 ≤ (f1 (0 : Int32).toNatClampNeg) ∧ r.2.2.1 + 2 ≤ (f11 (0 : Int32).toNatClampNeg) ∧ r.2.2.1 ≤ (-1) ∧ r.2.2.1 < p1 ∧ r.2.2.1 < r.2.1 ∧ r.2.2.1 ≤ r.2.2.2.2.2.2.2.1 ∧ r.2.2.1 ≤ r.2.2.2.2.2.2.2.2.1 ∧ r.2.2.1 < v0_30 ∧ r.2.2.1 + 2 ≤ v0_38 ∧ r.2.2.1 ≤ v0_52 ∧ r.2.2.1 ≤ v0_53 ∧ r.2.2.2.2.2.2.2.1 ≤ r.2.1 + 12 ∧ r.2.2.2.2.2.2.2.1 ≤ r.2.2.1 + 14 ∧ r.2.2.2.2.2.2.2.1 ≤ r.2.2.2.2.2.2.2.2.1 + 13 ∧ r.2.2.2.2.2.2.2.1 ≤ v0_38 + 12 ∧ r.2.2.2.2.2.2.2.2.1 < (f11 (0 : Int32).toNatClampNeg) ∧ r.2.2.2.2.2.2.2.2.1 ≤ r.2.1 + 2 ∧ r.2.2.2.2.2.2.2.2.1 ≤ r.2.2.2.2.2.2.2.1 + 3 ∧ v0_30 ≤ r.2.2.1 + 15 ∧ v0_30 ≤ v0_38 + 13 ∧ v0_38 ≤ (f1 (0 : Int32).toNatClampNeg) ∧ v0_38 ≤ (f11 (0 : Int32).toNatClampNeg) ∧ v0_38 ≤ p1 + 1 ∧ v0_38 ≤ r.2.2.1 + 2 ∧ v0_52 ≤ r.2.2.1 + 14 ∧ v0_52 ≤ v0_38 + 12 ∧ v0_53 ≤ r.2.2.1 + 4 ∧ v0_53 ≤ v0_38 + 2) ∧ (∀ i : Nat, r.2.2.2.2.2.2.2.2.2.2.1 i = f5 i ∨ r.2.2.2.2.2.2.2.2.2.2.1 i = f6 i ∨ 0 ≤ r.2.2.2.2.2.2.2.2.2.2.1 i ∧ r.2.2.2.2.2.2.2.2.2.2.1 i < f11 (0 : Int32).toNatClampNeg)) := by
  unfold fn_X12_single
  refine zw_zb0 (sf_X12_isThere v0_38 f1 (by grind [zu_at, zu_atL]) (by grind [zu_at, zu_atL])) (fun o_1 ho_1 => ?_)
  refine zw_if (fun c1 => ?_) (fun c1 => ?_)
  · refine zw_some ?_
    first | trivial | (try dsimp only); grind [zu_at, zu_atL]
  refine zw_zb0 (sf_X12_isIn p1.toInt64 (0 : Int64) (3 : Int64)) (fun o_6 ho_6 => ?_)
  refine zw_if (fun c2 => ?_) (fun c2 => ?_)
  · refine zw_some ?_
    first | trivial | (try dsimp only); grind [zu_at, zu_atL]
  refine zw_zb0 (sf_X12_laysSingle w0_34 v0_41 v0_42 f1 f2 f3 f4 f5 f6 f7 f8 f9 f10 f11 f12 f13 f14 f15 f16 f17 f18 f19 f20 (by grind [zu_at, zu_atL]) (by grind [zu_at, zu_atL]) (by grind [zu_at, zu_atL]) (by grind [zu_at, zu_atL]) (by grind [zu_at, zu_atL]) (by grind [zu_at, zu_atL]) (by grind [zu_at, zu_atL]) (by grind [zu_at, zu_atL]) (by grind [zu_at, zu_atL]) (by grind [zu_at, zu_atL]) (by grind [zu_at, zu_atL]) (by grind [zu_at, zu_atL]) (by grind [zu_at, zu_atL])) (fun o_11 ho_11 => ?_)
  refine zw_if (fun c3 => ?_) (fun c3 => ?_)
  · refine zw_some ?_
    first | trivial | (try dsimp only); grind [zu_at, zu_atL]
  refine zw_if (fun c4 => ?_) (fun c4 => ?_)
  · refine zw_some ?_
    first | trivial | (try dsimp only); grind [zu_at, zu_atL]
  refine zw_if (fun c5 => ?_) (fun c5 => ?_)
  · refine zw_some ?_
    first | trivial | (try dsimp only); grind [zu_at, zu_atL]
  refine zw_some ?_
  first | trivial | (try dsimp only); grind [zu_at, zu_atL]
set_option maxHeartbeats 1000000 in
theorem sf_X12_takesTried (f1 : Nat → Int32) (f2 : Nat → Int32) (f3 : Nat → Int32) (h_f1 : (∀ i : Nat, 0 ≤ f1 i ∧ f1 i ≤ 14)) (h_f2 : (∀ i : Nat, 0 ≤ f2 i ∧ f2 i ≤ 3)) (h_f3 : (∀ i : Nat, 0 ≤ f3 i ∧ f3 i ≤ 3)) : zw (fn_X12_takesTried f1 f2 f3) (fun r => (∀ i : Nat, 0 ≤ r i ∧ r i ≤ 3) ∧ (∀ i : Nat, r i = f3 i ∨ r i = f2 i)) := by
  unfold fn_X12_takesTried
  refine zw_zl32 (fun s_1 => (∀ i : Nat, 0 ≤ s_1.2 i ∧ s_1.2 i ≤ 3) ∧ 0 ≤ s_1.1 ∧ s_1.1 ≤ 14 ∧ (∀ i : Nat, s_1.2 i = f3 i ∨ s_1.2 i = f2 i)) (fun s_1 => 14 - s_1.1) (by (try dsimp only); grind [zu_at, zu_atL]) (by (try dsimp only); grind [zu_at, zu_atL]) (fun s_1 back_1 Hback_1 hback_1 => ?_)
  refine zw_if (fun c1 => ?_) (fun c1 => ?_)
  · refine zw_some ?_
    first | trivial | (try dsimp only); grind [zu_at, zu_atL]
  refine zw_zg32 14 (by decide) (by grind [zu_at, zu_atL]) ?_
  exact hback_1 _ (by grind [zu_at, zu_atL]) (by grind [zu_at, zu_atL]) (by grind [zu_at, zu_atL])
set_option maxHeartbeats 1000000 in
theorem sf_X12_canTake (p1 : Int32) (v0_30 : Int32) (v0_33 : Int32) (w0_34 : Int64) (v0_38 : Int32) (v0_41 : Int32) (v0_42 : Int32) (v0_44 : Int32) (v0_45 : Int32) (v0_50 : Int32) (v0_51 : Int32) (v0_52 : Int32) (v0_53 : Int32) (f1 : Nat → Int32) (f2 : Nat → Int32) (f3 : Nat → Int32) (f4 : Nat → Int32) (f5 : Nat → Int32) (f6 : Nat → Int32) (f7 : Nat → Int32) (f8 : Nat → Int32) (f9 : Nat → Int32) (f10 : Nat → Int32) (f11 : Nat → Int32) (f12 : Nat → Int32) (f13 : Nat → Int64) (f14 : Nat → Int64) (f15 : Nat → Int64) (f16 : Nat → Int64) (f17 : Nat → Int32) (f18 : Nat → Int64) (f19 : Nat → Int32) (f20 : Nat → Int32) (f21 : Nat → Int32) (f22 : Nat → Int32) (f23 : Nat → Int32) (f24 : Nat → Int32) (f25 : Nat → Int32) (h_v0_30 : 0 ≤ v0_30 ∧ v0_30 ≤ 14) (h_v0_38 : 0 ≤ v0_38 ∧ v0_38 ≤ 1) (h_v0_52 : (-1) ≤ v0_52 ∧ v0_52 ≤ 13) (h_v0_53 : (-1) ≤ v0_53 ∧ v0_53 ≤ 3) (h_f1 : (∀ i : Nat, 0 ≤ f1 i ∧ f1 i ≤ 14)) (h_f2 : (∀ i : Nat, 0 ≤ f2 i ∧ f2 i ≤ 13)) (h_f3 : (∀ i : Nat, (-1) ≤ f3 i ∧ f3 i ≤ 3)) (h_f4 : (∀ i : Nat, 0 ≤ f4 i ∧ f4 i ≤ 13)) (h_f5 : (∀ i : Nat, 0 ≤ f5 i ∧ f5 i ≤ 3)) (h_f6 : (∀ i : Nat, 0 ≤ f6 i ∧ f6 i ≤ 3)) (h_f8 : (∀ i : Nat, (-1) ≤ f8 i ∧ f8 i ≤ 13)) (h_f9 : (∀ i : Nat, (-1) ≤ f9 i ∧ f9 i ≤ 13)) (h_f11 : (∀ i : Nat, 0 ≤ f11 i ∧ f11 i ≤ 4)) (h_f21 : (∀ i : Nat, 0 ≤ f21 i ∧ f21 i ≤ 1)) (h_f22 : (∀ i : Nat, 0 ≤ f22 i ∧ f22 i ≤ 3)) (h_f23 : (∀ i : Nat, 0 ≤ f23 i ∧ f23 i ≤ 13)) (hx_0 : f1 (0 : Int32).toNatClampNeg ≤ 0 ∨ 1 ≤ f11 (0 : Int32).toNatClampNeg ∧ (∀ x : Int32, 0 ≤ x → x < f11 (0 : Int32).toNatClampNeg → 1 ≤ f17 x.toNatClampNeg) ∧ (∀ i : Nat, 1 ≤ f17 (f5 i).toNatClampNeg) ∧ (∀ i : Nat, 1 ≤ f17 (f6 i).toNatClampNeg) ∧ (∀ i : Nat, 1 ≤ f17 (f22 i).toNatClampNeg)) : zw (fn_X12_canTake p1 v0_30 v0_33 w0_34 v0_38 v0_41 v0_42 v0_44 v0_45 v0_50 v0_51 v0_52 v0_53 f1 f2 f3 f4 f5 f6 f7 f8 f9 f10 f11 f12 f13 f14 f15 f16 f17 f18 f19 f20 f21 f22 f23 f24 f25) (fun r => 0 ≤ r.1 ∧ r.1 ≤ 1 ∧ 0 ≤ r.2.1 ∧ r.2.1 ≤ 14 ∧ (-1) ≤ r.2.2.2.2.2.2.2.2.2.1 ∧ r.2.2.2.2.2.2.2.2.2.1 ≤ 13 ∧ (-1) ≤ r.2.2.2.2.2.2.2.2.2.2.1 ∧ r.2.2.2.2.2.2.2.2.2.2.1 ≤ 3 ∧ (∀ i : Nat, 0 ≤ r.2.2.2.2.2.2.2.2.2.2.2.1 i ∧ r.2.2.2.2.2.2.2.2.2.2.2.1 i ≤ 13) ∧ (∀ i : Nat, 0 ≤ r.2.2.2.2.2.2.2.2.2.2.2.2.1 i ∧ r.2.2.2.2.2.2.2.2.2.2.2.2.1 i ≤ 3) ∧ (∀ i : Nat, 0 ≤ r.2.2.2.2.2.2.2.2.2.2.2.2.2.2.2.2.1 i ∧ r.2.2.2.2.2.2.2.2.2.2.2.2.2.2.2.2.1 i ≤ 1) ∧ (∀ i : Nat, 0 ≤ r.2.2.2.2.2.2.2.2.2.2.2.2.2.2.2.2.2.1 i ∧ r.2.2.2.2.2.2.2.2.2.2.2.2.2.2.2.2.2.1 i ≤ 3) ∧ (∀ i : Nat, 0 ≤ r.2.2.2.2.2.2.2.2.2.2.2.2.2.2.2.2.2.2.1 i ∧ r.2.2.2.2.2.2.2.2.2.2.2.2.2.2.2.2.2.2.1 i ≤ 13) ∧ r.1 ≤ v0_38 ∧ (r.1 = 0 → r.1 ≤ r.2.1 ∧ r.1 ≤ r.2.2.2.2.2.2.2.2.2.2.1 + 1 ∧ r.1 ≤ r.2.2.2.2.2.2.2.2.2.1 + 1 ∧ r.1 ≤ v0_30 ∧ r.1 ≤ v0_53 + 1 ∧ r.2.2.2.2.2.2.2.2.2.2.1 ≤ v0_53 + 3 ∧ r.2.2.2.2.2.1 ≤ v0_44 ∧ r.2.2.2.2.2.2.2.2.2.1 ≤ v0_52 ∧ v0_44 ≤ r.2.2.2.2.2.1) ∧ (¬ r.1 = 0 → (f1 (0 : Int32).toNatClampNeg) ≤ 14 ∧ (f1 (0 : Int32).toNatClampNeg) ≤ r.1 + 13 ∧ (f1 (0 : Int32).toNatClampNeg) ≤ r.2.2.1 + 15 ∧ (f1 (0 : Int32).toNatClampNeg) ≤ v0_38 + 13 ∧ (f11 (0 : Int32).toNatClampNeg) ≤ 4 ∧ (f11 (0 : Int32).toNatClampNeg) ≤ r.1 + 3 ∧ (f11 (0 : Int32).toNatClampNeg) ≤ r.2.2.1 + 5 ∧ (f11 (0 : Int32).toNatClampNeg) ≤ v0_38 + 3 ∧ 1 ≤ (f1 (0 : Int32).toNatClampNeg) ∧ 1 ≤ (f11 (0 : Int32).toNatClampNeg) ∧ 0 ≤ p1 ∧ 1 ≤ r.1 ∧ (-1) ≤ r.2.2.1 ∧ 1 ≤ v0_38 ∧ p1 ≤ 2 ∧ p1 ≤ r.1 + 1 ∧ p1 ≤ r.2.2.2.2.2.2.2.2.2.2.1 + 2 ∧ p1 ≤ r.2.2.1 + 3 ∧ p1 ≤ r.2.2.2.2.2.2.2.2.2.1 + 2 ∧ p1 ≤ v0_38 + 1 ∧ r.1 ≤ (f1 (0 : Int32).toNatClampNeg) ∧ r.1 ≤ (f11 (0 : Int32).toNatClampNeg) ∧ r.1 ≤ p1 + 1 ∧ r.1 ≤ r.2.2.1 + 2 ∧ r.2.1 ≤ p1 + 13 ∧ r.2.1 ≤ r.1 + 13 ∧ r.2.1 ≤ r.2.2.1 + 15 ∧ r.2.1 ≤ v0_38 + 13 ∧ r.2.2.2.2.2.2.2.2.2.2.1 ≤ r.1 + 2 ∧ r.2.2.2.2.2.2.2.2.2.2.1 ≤ r.2.2.1 + 4 ∧ r.2.2.2.2.2.2.2.2.2.2.1 ≤ v0_38 + 2 ∧ r.2.2.1 + 2 ≤ (f1 (0 : Int32).toNatClampNeg) ∧ r.2.2.1 + 2 ≤ (f11 (0 : Int32).toNatClampNeg) ∧ r.2.2.1 ≤ (-1) ∧ r.2.2.1 < p1 ∧ r.2.2.1 + 2 ≤ r.1 ∧ r.2.2.1 < r.2.1 ∧ r.2.2.1 ≤ r.2.2.2.2.2.2.2.2.2.2.1 ∧ r.2.2.1 ≤ r.2.2.2.2.2.2.2.2.2.1 ∧ r.2.2.1 < v0_30 ∧ r.2.2.1 + 2 ≤ v0_38 ∧ r.2.2.1 ≤ v0_52 ∧ r.2.2.1 ≤ v0_53 ∧ r.2.2.2.2.2.2.2.2.2.1 ≤ r.1 + 12 ∧ r.2.2.2.2.2.2.2.2.2.1 ≤ r.2.2.1 + 14 ∧ r.2.2.2.2.2.2.2.2.2.1 ≤ v0_38 + 12 ∧ v0_30 ≤ r.1 + 13 ∧ v0_30 ≤ r.2.2.1 + 15 ∧ v0_30 ≤ v0_38 + 13 ∧ v0_38 ≤ (f1 (0 : Int32).toNatClampNeg) ∧ v0_38 ≤ (f11 (0 : Int32).toNatClampNeg) ∧ v0_38 ≤ p1 + 1 ∧ v0_38 ≤ r.1 ∧ v0_38 ≤ r.2.2.1 + 2 ∧ v0_52 ≤ r.1 + 12 ∧ v0_52 ≤ r.2.2.1 + 14 ∧ v0_52 ≤ r.2.2.2.2.2.2.2.2.2.1 + 13 ∧ v0_52 ≤ v0_38 + 12 ∧ v0_53 ≤ r.1 + 2 ∧ v0_53 ≤ r.2.2.2.2.2.2.2.2.2.2.1 + 3 ∧ v0_53 ≤ r.2.2.1 + 4 ∧ v0_53 ≤ v0_38 + 2) ∧ (r.1 = 1 → (f1 (0 : Int32).toNatClampNeg) ≤ 14 ∧ (f1 (0 : Int32).toNatClampNeg) ≤ r.1 + 13 ∧ (f1 (0 : Int32).toNatClampNeg) ≤ r.2.2.1 + 15 ∧ (f1 (0 : Int32).toNatClampNeg) ≤ v0_38 + 13 ∧ (f11 (0 : Int32).toNatClampNeg) ≤ 4 ∧ (f11 (0 : Int32).toNatClampNeg) ≤ r.1 + 3 ∧ (f11 (0 : Int32).toNatClampNeg) ≤ r.2.2.1 + 5 ∧ (f11 (0 : Int32).toNatClampNeg) ≤ v0_38 + 3 ∧ 1 ≤ (f1 (0 : Int32).toNatClampNeg) ∧ 1 ≤ (f11 (0 : Int32).toNatClampNeg) ∧ 0 ≤ p1 ∧ (-1) ≤ r.2.2.1 ∧ 1 ≤ v0_38 ∧ p1 ≤ 2 ∧ p1 ≤ r.1 + 1 ∧ p1 ≤ r.2.2.2.2.2.2.2.2.2.2.1 + 2 ∧ p1 ≤ r.2.2.1 + 3 ∧ p1 ≤ r.2.2.2.2.2.2.2.2.2.1 + 2 ∧ p1 ≤ v0_38 + 1 ∧ r.1 ≤ (f1 (0 : Int32).toNatClampNeg) ∧ r.1 ≤ (f11 (0 : Int32).toNatClampNeg) ∧ r.1 ≤ p1 + 1 ∧ r.1 ≤ r.2.2.1 + 2 ∧ r.2.1 ≤ p1 + 13 ∧ r.2.1 ≤ r.1 + 13 ∧ r.2.1 ≤ r.2.2.1 + 15 ∧ r.2.1 ≤ v0_38 + 13 ∧ r.2.2.2.2.2.2.2.2.2.2.1 ≤ r.1 + 2 ∧ r.2.2.2.2.2.2.2.2.2.2.1 ≤ r.2.2.1 + 4 ∧ r.2.2.2.2.2.2.2.2.2.2.1 ≤ v0_38 + 2 ∧ r.2.2.1 + 2 ≤ (f1 (0 : Int32).toNatClampNeg) ∧ r.2.2.1 + 2 ≤ (f11 (0 : Int32).toNatClampNeg) ∧ r.2.2.1 ≤ (-1) ∧ r.2.2.1 < p1 ∧ r.2.2.1 + 2 ≤ r.1 ∧ r.2.2.1 < r.2.1 ∧ r.2.2.1 ≤ r.2.2.2.2.2.2.2.2.2.2.1 ∧ r.2.2.1 ≤ r.2.2.2.2.2.2.2.2.2.1 ∧ r.2.2.1 < v0_30 ∧ r.2.2.1 + 2 ≤ v0_38 ∧ r.2.2.1 ≤ v0_52 ∧ r.2.2.1 ≤ v0_53 ∧ r.2.2.2.2.2.2.2.2.2.1 ≤ r.1 + 12 ∧ r.2.2.2.2.2.2.2.2.2.1 ≤ r.2.2.1 + 14 ∧ r.2.2.2.2.2.2.2.2.2.1 ≤ v0_38 + 12 ∧ v0_30 ≤ r.1 + 13 ∧ v0_30 ≤ r.2.2.1 + 15 ∧ v0_30 ≤ v0_38 + 13 ∧ v0_38 ≤ (f1 (0 : Int32).toNatClampNeg) ∧ v0_38 ≤ (f11 (0 : Int32).toNatClampNeg) ∧ v0_38 ≤ p1 + 1 ∧ v0_38 ≤ r.1 ∧ v0_38 ≤ r.2.2.1 + 2 ∧ v0_52 ≤ r.1 + 12 ∧ v0_52 ≤ r.2.2.1 + 14 ∧ v0_52 ≤ r.2.2.2.2.2.2.2.2.2.1 + 13 ∧ v0_52 ≤ v0_38 + 12 ∧ v0_53 ≤ r.1 + 2 ∧ v0_53 ≤ r.2.2.2.2.2.2.2.2.2.2.1 + 3 ∧ v0_53 ≤ r.2.2.1 + 4 ∧ v0_53 ≤ v0_38 + 2) ∧ (¬ r.1 = 1 → r.1 ≤ 0 ∧ r.1 ≤ r.2.1 ∧ r.1 ≤ r.2.2.2.2.2.2.2.2.2.2.1 + 1 ∧ r.1 ≤ r.2.2.2.2.2.2.2.2.2.1 + 1 ∧ r.1 ≤ v0_30 ∧ r.1 ≤ v0_53 + 1 ∧ r.2.2.2.2.2.2.2.2.2.2.1 ≤ v0_53 + 3 ∧ r.2.2.2.2.2.1 ≤ v0_44 ∧ r.2.2.2.2.2.2.2.2.2.1 ≤ v0_52 ∧ v0_44 ≤ r.2.2.2.2.2.1) ∧ (∀ i : Nat, r.2.2.2.2.2.2.2.2.2.2.2.2.1 i = f5 i ∨ r.2.2.2.2.2.2.2.2.2.2.2.2.1 i = f6 i ∨ r.2.2.2.2.2.2.2.2.2.2.2.2.1 i = f22 i ∨ 0 ≤ r.2.2.2.2.2.2.2.2.2.2.2.2.1 i ∧ r.2.2.2.2.2.2.2.2.2.2.2.2.1 i < f11 (0 : Int32).toNatClampNeg) ∧ (∀ i : Nat, r.2.2.2.2.2.2.2.2.2.2.2.2.2.2.2.2.2.1 i = f5 i ∨ r.2.2.2.2.2.2.2.2.2.2.2.2.2.2.2.2.2.1 i = f6 i ∨ r.2.2.2.2.2.2.2.2.2.2.2.2.2.2.2.2.2.1 i = f22 i ∨ 0 ≤ r.2.2.2.2.2.2.2.2.2.2.2.2.2.2.2.2.2.1 i ∧ r.2.2.2.2.2.2.2.2.2.2.2.2.2.2.2.2.2.1 i < f11 (0 : Int32).toNatClampNeg)) := by
  unfold fn_X12_canTake
  refine zw_if (fun c1 => ?_) (fun c1 => ?_)
  · refine zw_zb0 (sf_X12_canSearch v0_38 f1 f2 f3 f4 (by grind [zu_at, zu_atL]) (by grind [zu_at, zu_atL]) (by grind [zu_at, zu_atL]) (by grind [zu_at, zu_atL]) (by grind [zu_at, zu_atL])) (fun o_35 ho_35 => ?_)
    refine zw_zj (fun s_39 => (∀ i : Nat, 0 ≤ s_39.2.2.2.2.2.1 i ∧ s_39.2.2.2.2.2.1 i ≤ 3) ∧ (f11 (0 : Int32).toNatClampNeg) ≤ 4 ∧ (f11 (0 : Int32).toNatClampNeg) ≤ o_35.1 + 3 ∧ (f11 (0 : Int32).toNatClampNeg) ≤ o_35.2.2.1 + 5 ∧ (f11 (0 : Int32).toNatClampNeg) ≤ p1 + 4 ∧ (f11 (0 : Int32).toNatClampNeg) ≤ v0_38 + 3 ∧ 1 ≤ (f11 (0 : Int32).toNatClampNeg) ∧ (-1) ≤ s_39.1 ∧ o_35.1 ≤ (f11 (0 : Int32).toNatClampNeg) ∧ o_35.1 ≤ s_39.1 + 2 ∧ o_35.2.2.1 + 2 ≤ (f11 (0 : Int32).toNatClampNeg) ∧ o_35.2.2.1 ≤ s_39.1 ∧ p1 < (f11 (0 : Int32).toNatClampNeg) ∧ p1 ≤ s_39.1 + 1 ∧ s_39.1 ≤ 1023 ∧ v0_38 ≤ (f11 (0 : Int32).toNatClampNeg) ∧ v0_38 ≤ s_39.1 + 2 ∧ (∀ i : Nat, s_39.2.2.2.2.2.1 i = f5 i ∨ s_39.2.2.2.2.2.1 i = f6 i ∨ s_39.2.2.2.2.2.1 i = f22 i ∨ 0 ≤ s_39.2.2.2.2.2.1 i ∧ s_39.2.2.2.2.2.1 i < f11 (0 : Int32).toNatClampNeg)) (fun s_39 Hj_39 => ?_) (fun j_39 hj_39 => ?_)
    · refine zw_if (fun c2 => ?_) (fun c2 => ?_)
      · refine zw_if (fun c3 => ?_) (fun c3 => ?_)
        · refine zw_some ?_
          first | trivial | (try dsimp only); grind [zu_at, zu_atL]
        refine zw_some ?_
        first | trivial | (try dsimp only); grind [zu_at, zu_atL]
      refine zw_zb0 (sf_X12_triesChoice s_39.1 o_35.2.1 f1 f5 s_39.2.2.2.2.2.1 o_35.2.2.2 f11 f2 (by grind [zu_at, zu_atL]) (by grind [zu_at, zu_atL]) (by grind [zu_at, zu_atL]) (by grind [zu_at, zu_atL]) (by grind [zu_at, zu_atL]) (by grind [zu_at, zu_atL]) (by grind [zu_at, zu_atL]) (by grind [zu_at, zu_atL]) (by grind [zu_at, zu_atL])) (fun o_42 ho_42 => ?_)
      refine zw_if (fun c4 => ?_) (fun c4 => ?_)
      · refine zw_some ?_
        first | trivial | (try dsimp only); grind [zu_at, zu_atL]
      refine zw_some ?_
      first | trivial | (try dsimp only); grind [zu_at, zu_atL]
    refine zw_if (fun c5 => ?_) (fun c5 => ?_)
    · exact hj_39 _ (by grind [zu_at, zu_atL])
    refine zw_zb0 (sf_X12_cheapestChoice o_35.2.1 o_35.2.2.1 w0_34 v0_41 v0_42 f11 f1 f5 f6 o_35.2.2.2 f2 f7 f8 f9 f10 f12 f13 f14 f15 f16 f17 f18 f19 f20 (by grind [zu_at, zu_atL]) (by grind [zu_at, zu_atL]) (by grind [zu_at, zu_atL]) (by grind [zu_at, zu_atL]) (by grind [zu_at, zu_atL]) (by grind [zu_at, zu_atL]) (by grind [zu_at, zu_atL]) (by grind [zu_at, zu_atL]) (by grind [zu_at, zu_atL]) (by grind [zu_at, zu_atL]) (by grind [zu_at, zu_atL]) (by grind [zu_at, zu_atL]) (by grind [zu_at, zu_atL])) (fun o_48 ho_48 => ?_)
    exact hj_39 _ (by grind [zu_at, zu_atL])
  refine zw_if (fun c6 => ?_) (fun c6 => ?_)
  · refine zw_zb0 (sf_X12_halve w0_34 v0_38 v0_41 v0_42 v0_44 v0_45 f1 f2 f3 f4 f11 f17 f5 f6 f21 f12 f8 f9 f13 f14 f15 f16 f18 f19 f20 f22 f7 f10 f23 f24 f25 (by grind [zu_at, zu_atL]) (by grind [zu_at, zu_atL]) (by grind [zu_at, zu_atL]) (by grind [zu_at, zu_atL]) (by grind [zu_at, zu_atL]) (by grind [zu_at, zu_atL]) (by grind [zu_at, zu_atL]) (by grind [zu_at, zu_atL]) (by grind [zu_at, zu_atL]) (by grind [zu_at, zu_atL]) (by grind [zu_at, zu_atL]) (by grind [zu_at, zu_atL]) (by grind [zu_at, zu_atL]) (by grind [zu_at, zu_atL])) (fun o_24 ho_24 => ?_)
    refine zw_zl32 (fun s_28 => (∀ i : Nat, 0 ≤ s_28.2 i ∧ s_28.2 i ≤ 3) ∧ 0 ≤ s_28.1 ∧ o_24.1 ≤ s_28.1 + 1 ∧ o_24.2.2.1 < s_28.1 ∧ p1 ≤ s_28.1 + 1 ∧ s_28.1 ≤ (f1 (0 : Int32).toNatClampNeg) ∧ v0_38 ≤ s_28.1 + 1 ∧ (∀ i : Nat, s_28.2 i = f5 i ∨ s_28.2 i = f6 i ∨ s_28.2 i = f22 i ∨ 0 ≤ s_28.2 i ∧ s_28.2 i < f11 (0 : Int32).toNatClampNeg)) (fun s_28 => 14 - s_28.1) (by (try dsimp only); grind [zu_at, zu_atL]) (by (try dsimp only); grind [zu_at, zu_atL]) (fun s_28 back_28 Hback_28 hback_28 => ?_)
    refine zw_if (fun c7 => ?_) (fun c7 => ?_)
    · refine zw_zt (by grind [zu_at, zu_atL]) ?_
      refine zw_some ?_
      first | trivial | (try dsimp only); grind [zu_at, zu_atL]
    refine zw_if (fun c8 => ?_) (fun c8 => ?_)
    · refine zw_zt (by grind [zu_at, zu_atL]) ?_
      refine zw_some ?_
      first | trivial | (try dsimp only); grind [zu_at, zu_atL]
    refine zw_zg32 14 (by decide) (by grind [zu_at, zu_atL]) ?_
    refine zw_zn (fun g_34 eg_34 => ?_)
    exact hback_28 _ (by grind [zu_at, zu_atL]) (by grind [zu_at, zu_atL]) (by grind [zu_at, zu_atL])
  refine zw_if (fun c9 => ?_) (fun c9 => ?_)
  · refine zw_zb0 (sf_X12_isThere v0_38 f1 (by grind [zu_at, zu_atL]) (by grind [zu_at, zu_atL])) (fun o_4 ho_4 => ?_)
    refine zw_if (fun c10 => ?_) (fun c10 => ?_)
    · refine zw_some ?_
      first | trivial | (try dsimp only); grind [zu_at, zu_atL]
    refine zw_zb0 (sf_X12_laysSingle w0_34 v0_41 v0_42 f1 f2 f3 f4 f5 f6 f7 f8 f9 f10 f11 f12 f13 f14 f15 f16 f17 f18 f19 f20 (by grind [zu_at, zu_atL]) (by grind [zu_at, zu_atL]) (by grind [zu_at, zu_atL]) (by grind [zu_at, zu_atL]) (by grind [zu_at, zu_atL]) (by grind [zu_at, zu_atL]) (by grind [zu_at, zu_atL]) (by grind [zu_at, zu_atL]) (by grind [zu_at, zu_atL]) (by grind [zu_at, zu_atL]) (by grind [zu_at, zu_atL]) (by grind [zu_at, zu_atL]) (by grind [zu_at, zu_atL])) (fun o_9 ho_9 => ?_)
    refine zw_zb0 (sf_X12_triesHand f1 f5 o_9.2.2.2.2.2.2.2.2.2.1 (by grind [zu_at, zu_atL]) (by grind [zu_at, zu_atL]) (by grind [zu_at, zu_atL])) (fun o_13 ho_13 => ?_)
    refine zw_if (fun c11 => ?_) (fun c11 => ?_)
    · refine zw_if (fun c12 => ?_) (fun c12 => ?_)
      · refine zw_some ?_
        first | trivial | (try dsimp only); grind [zu_at, zu_atL]
      refine zw_some ?_
      first | trivial | (try dsimp only); grind [zu_at, zu_atL]
    refine zw_zb0 (sf_X12_triesGroup o_9.2.2.2.2.2.2.1 o_9.2.2.2.2.2.2.2.1 f1 f2 o_13 (by grind [zu_at, zu_atL]) (by grind [zu_at, zu_atL]) (by grind [zu_at, zu_atL]) (by grind [zu_at, zu_atL])) (fun o_19 ho_19 => ?_)
    refine zw_if (fun c13 => ?_) (fun c13 => ?_)
    · refine zw_some ?_
      first | trivial | (try dsimp only); grind [zu_at, zu_atL]
    refine zw_some ?_
    first | trivial | (try dsimp only); grind [zu_at, zu_atL]
  refine zw_some ?_
  first | trivial | (try dsimp only); grind [zu_at, zu_atL]
set_option maxHeartbeats 1000000 in
theorem sf_X12_take (p1 : Int32) (v0_30 : Int32) (v0_33 : Int32) (w0_34 : Int64) (v0_38 : Int32) (v0_41 : Int32) (v0_42 : Int32) (v0_44 : Int32) (v0_45 : Int32) (v0_50 : Int32) (v0_51 : Int32) (v0_52 : Int32) (v0_53 : Int32) (f1 : Nat → Int32) (f2 : Nat → Int32) (f3 : Nat → Int32) (f4 : Nat → Int32) (f5 : Nat → Int32) (f6 : Nat → Int32) (f7 : Nat → Int32) (f8 : Nat → Int32) (f9 : Nat → Int32) (f10 : Nat → Int32) (f11 : Nat → Int32) (f12 : Nat → Int32) (f13 : Nat → Int64) (f14 : Nat → Int64) (f15 : Nat → Int64) (f16 : Nat → Int64) (f17 : Nat → Int32) (f18 : Nat → Int64) (f19 : Nat → Int32) (f20 : Nat → Int32) (f21 : Nat → Int32) (f22 : Nat → Int32) (f23 : Nat → Int32) (f24 : Nat → Int32) (f25 : Nat → Int32) (f26 : Nat → Int32) (h_v0_30 : 0 ≤ v0_30 ∧ v0_30 ≤ 14) (h_v0_38 : 0 ≤ v0_38 ∧ v0_38 ≤ 1) (h_v0_52 : (-1) ≤ v0_52 ∧ v0_52 ≤ 13) (h_v0_53 : (-1) ≤ v0_53 ∧ v0_53 ≤ 3) (h_f1 : (∀ i : Nat, 0 ≤ f1 i ∧ f1 i ≤ 14)) (h_f2 : (∀ i : Nat, 0 ≤ f2 i ∧ f2 i ≤ 13)) (h_f3 : (∀ i : Nat, (-1) ≤ f3 i ∧ f3 i ≤ 3)) (h_f4 : (∀ i : Nat, 0 ≤ f4 i ∧ f4 i ≤ 13)) (h_f5 : (∀ i : Nat, 0 ≤ f5 i ∧ f5 i ≤ 3)) (h_f6 : (∀ i : Nat, 0 ≤ f6 i ∧ f6 i ≤ 3)) (h_f8 : (∀ i : Nat, (-1) ≤ f8 i ∧ f8 i ≤ 13)) (h_f9 : (∀ i : Nat, (-1) ≤ f9 i ∧ f9 i ≤ 13)) (h_f11 : (∀ i : Nat, 0 ≤ f11 i ∧ f11 i ≤ 4)) (h_f21 : (∀ i : Nat, 0 ≤ f21 i ∧ f21 i ≤ 1)) (h_f22 : (∀ i : Nat, 0 ≤ f22 i ∧ f22 i ≤ 3)) (h_f23 : (∀ i : Nat, 0 ≤ f23 i ∧ f23 i ≤ 13)) (hx_0 : f1 (0 : Int32).toNatClampNeg ≤ 0 ∨ 1 ≤ f11 (0 : Int32).toNatClampNeg ∧ (∀ x : Int32, 0 ≤ x → x < f11 (0 : Int32).toNatClampNeg → 1 ≤ f17 x.toNatClampNeg) ∧ (∀ i : Nat, 1 ≤ f17 (f5 i).toNatClampNeg) ∧ (∀ i : Nat, 1 ≤ f17 (f6 i).toNatClampNeg) ∧ (∀ i : Nat, 1 ≤ f17 (f22 i).toNatClampNeg)) : zw (fn_X12_take p1 v0_30 v0_33 w0_34 v0_38 v0_41 v0_42 v0_44 v0_45 v0_50 v0_51 v0_52 v0_53 f1 f2 f3 f4 f5 f6 f7 f8 f9 f10 f11 f12 f13 f14 f15 f16 f17 f18 f19 f20 f21 f22 f23 f24 f25 f26) (fun r => 0 ≤ r.2.1 ∧ r.2.1 ≤ 14 ∧ (-1) ≤ r.2.2.2.2.2.2.2.2.2.1 ∧ r.2.2.2.2.2.2.2.2.2.1 ≤ 13 ∧ (-1) ≤ r.2.2.2.2.2.2.2.2.2.2.1 ∧ r.2.2.2.2.2.2.2.2.2.2.1 ≤ 3 ∧ (∀ i : Nat, 0 ≤ r.2.2.2.2.2.2.2.2.2.2.2.1 i ∧ r.2.2.2.2.2.2.2.2.2.2.2.1 i ≤ 13) ∧ (∀ i : Nat, 0 ≤ r.2.2.2.2.2.2.2.2.2.2.2.2.1 i ∧ r.2.2.2.2.2.2.2.2.2.2.2.2.1 i ≤ 3) ∧ (∀ i : Nat, 0 ≤ r.2.2.2.2.2.2.2.2.2.2.2.2.2.1 i ∧ r.2.2.2.2.2.2.2.2.2.2.2.2.2.1 i ≤ 3) ∧ (∀ i : Nat, 0 ≤ r.2.2.2.2.2.2.2.2.2.2.2.2.2.2.2.2.2.1 i ∧ r.2.2.2.2.2.2.2.2.2.2.2.2.2.2.2.2.2.1 i ≤ 1) ∧ (∀ i : Nat, 0 ≤ r.2.2.2.2.2.2.2.2.2.2.2.2.2.2.2.2.2.2.1 i ∧ r.2.2.2.2.2.2.2.2.2.2.2.2.2.2.2.2.2.2.1 i ≤ 3) ∧ (∀ i : Nat, 0 ≤ r.2.2.2.2.2.2.2.2.2.2.2.2.2.2.2.2.2.2.2.1 i ∧ r.2.2.2.2.2.2.2.2.2.2.2.2.2.2.2.2.2.2.2.1 i ≤ 13) ∧ (¬ r.1 = (-1) → (f1 (0 : Int32).toNatClampNeg) ≤ 14 ∧ (f1 (0 : Int32).toNatClampNeg) ≤ r.2.2.1 + 15 ∧ (f1 (0 : Int32).toNatClampNeg) ≤ v0_38 + 13 ∧ (f11 (0 : Int32).toNatClampNeg) ≤ 4 ∧ (f11 (0 : Int32).toNatClampNeg) ≤ r.2.2.1 + 5 ∧ (f11 (0 : Int32).toNatClampNeg) ≤ v0_38 + 3 ∧ 1 ≤ (f1 (0 : Int32).toNatClampNeg) ∧ 1 ≤ (f11 (0 : Int32).toNatClampNeg) ∧ 0 ≤ p1 ∧ (-1) ≤ r.2.2.1 ∧ 1 ≤ v0_38 ∧ p1 ≤ 2 ∧ p1 ≤ r.2.2.2.2.2.2.2.2.2.2.1 + 2 ∧ p1 ≤ r.2.2.1 + 3 ∧ p1 ≤ r.2.2.2.2.2.2.2.2.2.1 + 2 ∧ p1 ≤ v0_38 + 1 ∧ r.2.1 ≤ p1 + 13 ∧ r.2.1 ≤ r.2.2.1 + 15 ∧ r.2.1 ≤ v0_38 + 13 ∧ r.2.2.2.2.2.2.2.2.2.2.1 ≤ r.2.2.1 + 4 ∧ r.2.2.2.2.2.2.2.2.2.2.1 ≤ v0_38 + 2 ∧ r.2.2.1 + 2 ≤ (f1 (0 : Int32).toNatClampNeg) ∧ r.2.2.1 + 2 ≤ (f11 (0 : Int32).toNatClampNeg) ∧ r.2.2.1 ≤ (-1) ∧ r.2.2.1 < p1 ∧ r.2.2.1 < r.2.1 ∧ r.2.2.1 ≤ r.2.2.2.2.2.2.2.2.2.2.1 ∧ r.2.2.1 ≤ r.2.2.2.2.2.2.2.2.2.1 ∧ r.2.2.1 < v0_30 ∧ r.2.2.1 + 2 ≤ v0_38 ∧ r.2.2.1 ≤ v0_52 ∧ r.2.2.1 ≤ v0_53 ∧ r.2.2.2.2.2.2.2.2.2.1 ≤ r.2.2.1 + 14 ∧ r.2.2.2.2.2.2.2.2.2.1 ≤ v0_38 + 12 ∧ v0_30 ≤ r.2.2.1 + 15 ∧ v0_30 ≤ v0_38 + 13 ∧ v0_38 ≤ (f1 (0 : Int32).toNatClampNeg) ∧ v0_38 ≤ (f11 (0 : Int32).toNatClampNeg) ∧ v0_38 ≤ p1 + 1 ∧ v0_38 ≤ r.2.2.1 + 2 ∧ v0_52 ≤ r.2.2.1 + 14 ∧ v0_52 ≤ r.2.2.2.2.2.2.2.2.2.1 + 13 ∧ v0_52 ≤ v0_38 + 12 ∧ v0_53 ≤ r.2.2.2.2.2.2.2.2.2.2.1 + 3 ∧ v0_53 ≤ r.2.2.1 + 4 ∧ v0_53 ≤ v0_38 + 2) ∧ (∀ i : Nat, r.2.2.2.2.2.2.2.2.2.2.2.2.1 i = f5 i ∨ r.2.2.2.2.2.2.2.2.2.2.2.2.1 i = f6 i ∨ r.2.2.2.2.2.2.2.2.2.2.2.2.1 i = f22 i ∨ 0 ≤ r.2.2.2.2.2.2.2.2.2.2.2.2.1 i ∧ r.2.2.2.2.2.2.2.2.2.2.2.2.1 i < f11 (0 : Int32).toNatClampNeg) ∧ (∀ i : Nat, r.2.2.2.2.2.2.2.2.2.2.2.2.2.1 i = f5 i ∨ r.2.2.2.2.2.2.2.2.2.2.2.2.2.1 i = f6 i ∨ r.2.2.2.2.2.2.2.2.2.2.2.2.2.1 i = f22 i ∨ 0 ≤ r.2.2.2.2.2.2.2.2.2.2.2.2.2.1 i ∧ r.2.2.2.2.2.2.2.2.2.2.2.2.2.1 i < f11 (0 : Int32).toNatClampNeg) ∧ (∀ i : Nat, r.2.2.2.2.2.2.2.2.2.2.2.2.2.2.2.2.2.2.1 i = f5 i ∨ r.2.2.2.2.2.2.2.2.2.2.2.2.2.2.2.2.2.2.1 i = f6 i ∨ r.2.2.2.2.2.2.2.2.2.2.2.2.2.2.2.2.2.2.1 i = f22 i ∨ 0 ≤ r.2.2.2.2.2.2.2.2.2.2.2.2.2.2.2.2.2.2.1 i ∧ r.2.2.2.2.2.2.2.2.2.2.2.2.2.2.2.2.2.2.1 i < f11 (0 : Int32).toNatClampNeg)) := by
  unfold fn_X12_take
  refine zw_zb0 (sf_X12_canTake p1 v0_30 v0_33 w0_34 v0_38 v0_41 v0_42 v0_44 v0_45 v0_50 v0_51 v0_52 v0_53 f1 f2 f3 f4 f5 f6 f7 f8 f9 f10 f11 f12 f13 f14 f15 f16 f17 f18 f19 f20 f21 f22 f23 f24 f25 (by grind [zu_at, zu_atL]) (by grind [zu_at, zu_atL]) (by grind [zu_at, zu_atL]) (by grind [zu_at, zu_atL]) (by grind [zu_at, zu_atL]) (by grind [zu_at, zu_atL]) (by grind [zu_at, zu_atL]) (by grind [zu_at, zu_atL]) (by grind [zu_at, zu_atL]) (by grind [zu_at, zu_atL]) (by grind [zu_at, zu_atL]) (by grind [zu_at, zu_atL]) (by grind [zu_at, zu_atL]) (by grind [zu_at, zu_atL]) (by grind [zu_at, zu_atL]) (by grind [zu_at, zu_atL]) (by grind [zu_at, zu_atL])) (fun o_1 ho_1 => ?_)
  refine zw_if (fun c1 => ?_) (fun c1 => ?_)
  · refine zw_zb0 (sf_X12_refuses 2 f26 (by grind [zu_at, zu_atL])) (fun o_14 ho_14 => ?_)
    refine zw_some ?_
    first | trivial | (try dsimp only); grind [zu_at, zu_atL]
  refine zw_zb0 (sf_X12_takesTried f1 o_1.2.2.2.2.2.2.2.2.2.2.2.2.1 f5 (by grind [zu_at, zu_atL]) (by grind [zu_at, zu_atL]) (by grind [zu_at, zu_atL])) (fun o_6 ho_6 => ?_)
  refine zw_zb0 (sf_X12_costTried f7 f1 f8 o_1.2.2.2.2.2.2.2.2.2.2.2.2.1 f9 f10 (by grind [zu_at, zu_atL]) (by grind [zu_at, zu_atL]) (by grind [zu_at, zu_atL]) (by grind [zu_at, zu_atL])) (fun o_10 ho_10 => ?_)
  refine zw_some ?_
  first | trivial | (try dsimp only); grind [zu_at, zu_atL]
set_option maxHeartbeats 1000000 in
theorem sf_X12_laysCouple (p1 : Int32) (j2 : Int64) (v0_57 : Int32) (f1 : Nat → Int32) (f2 : Nat → Int64) (f3 : Nat → Int32) (h_v0_57 : 0 ≤ v0_57 ∧ v0_57 ≤ 1023) : zw (fn_X12_laysCouple p1 j2 v0_57 f1 f2 f3) (fun r => 0 ≤ r.1 ∧ r.1 ≤ 1024 ∧ 1 ≤ r.1 ∧ r.1 ≤ v0_57 + 1 ∧ v0_57 ≤ r.1) := by
  unfold fn_X12_laysCouple
  refine zw_zl32 (fun s_1 => 0 ≤ s_1 ∧ s_1 ≤ v0_57) (fun s_1 => 1023 - s_1) (by (try dsimp only); grind [zu_at, zu_atL]) (by (try dsimp only); grind [zu_at, zu_atL]) (fun s_1 back_1 Hback_1 hback_1 => ?_)
  refine zw_zj (fun _ => True) (fun s_2 Hj_2 => ?_) (fun j_2 hj_2 => ?_)
  · refine zw_zj (fun _ => True) (fun s_3 Hj_3 => ?_) (fun j_3 hj_3 => ?_)
    · refine zw_zl32 (fun s_4 => s_1 ≤ s_4.1 ∧ s_4.1 ≤ v0_57) (fun s_4 => s_4.1 - 0) (by (try dsimp only); grind [zu_at, zu_atL]) (by (try dsimp only); grind [zu_at, zu_atL]) (fun s_4 back_4 Hback_4 hback_4 => ?_)
      refine zw_if (fun c1 => ?_) (fun c1 => ?_)
      · refine zw_zg32 1024 (by decide) (by grind [zu_at, zu_atL]) ?_
        refine zw_some ?_
        first | trivial | (try dsimp only); grind [zu_at, zu_atL]
      refine zw_zg32 1024 (by decide) (by grind [zu_at, zu_atL]) ?_
      refine zw_zg32 1024 (by decide) (by grind [zu_at, zu_atL]) ?_
      refine zw_zn (fun g_9 eg_9 => ?_)
      refine zw_zn (fun g_10 eg_10 => ?_)
      refine zw_zn (fun g_11 eg_11 => ?_)
      exact hback_4 _ (by grind [zu_at, zu_atL]) (by grind [zu_at, zu_atL]) (by grind [zu_at, zu_atL])
    refine zw_if (fun c2 => ?_) (fun c2 => ?_)
    · exact hj_3 _ (by grind [zu_at, zu_atL])
    refine zw_zg32 1024 (by decide) (by grind [zu_at, zu_atL]) ?_
    refine zw_if (fun c3 => ?_) (fun c3 => ?_)
    · refine zw_if (fun c4 => ?_) (fun c4 => ?_)
      · refine zw_some ?_
        first | trivial | (try dsimp only); grind [zu_at, zu_atL]
      exact hj_3 _ (by grind [zu_at, zu_atL])
    exact hj_3 _ (by grind [zu_at, zu_atL])
  refine zw_if (fun c5 => ?_) (fun c5 => ?_)
  · exact hj_2 _ (by grind [zu_at, zu_atL])
  refine zw_zg32 1024 (by decide) (by grind [zu_at, zu_atL]) ?_
  refine zw_if (fun c6 => ?_) (fun c6 => ?_)
  · exact hback_1 _ (by grind [zu_at, zu_atL]) (by grind [zu_at, zu_atL]) (by grind [zu_at, zu_atL])
  refine zw_if (fun c7 => ?_) (fun c7 => ?_)
  · refine zw_if (fun c8 => ?_) (fun c8 => ?_)
    · exact hj_2 _ (by grind [zu_at, zu_atL])
    exact hback_1 _ (by grind [zu_at, zu_atL]) (by grind [zu_at, zu_atL]) (by grind [zu_at, zu_atL])
  exact hj_2 _ (by grind [zu_at, zu_atL])
set_option maxHeartbeats 1000000 in
theorem sf_X12_laysFront (p1 : Int32) (v0_30 : Int32) (v0_33 : Int32) (w0_34 : Int64) (v0_41 : Int32) (v0_42 : Int32) (f1 : Nat → Int32) (f2 : Nat → Int32) (f3 : Nat → Int32) (f4 : Nat → Int32) (f5 : Nat → Int32) (f6 : Nat → Int32) (f7 : Nat → Int32) (f8 : Nat → Int32) (f9 : Nat → Int32) (f10 : Nat → Int64) (f11 : Nat → Int64) (f12 : Nat → Int64) (f13 : Nat → Int64) (f14 : Nat → Int32) (f15 : Nat → Int64) (f16 : Nat → Int32) (f17 : Nat → Int32) (f18 : Nat → Int32) (f19 : Nat → Int32) (f20 : Nat → Int32) (f21 : Nat → Int64) (f22 : Nat → Int32) (h_p1 : 0 ≤ p1 ∧ p1 ≤ 13) (h_v0_30 : 0 ≤ v0_30 ∧ v0_30 ≤ 5) (h_f1 : (∀ i : Nat, 0 ≤ f1 i ∧ f1 i ≤ 4)) (h_f2 : (∀ i : Nat, 0 ≤ f2 i ∧ f2 i ≤ 14)) (h_f3 : (∀ i : Nat, 0 ≤ f3 i ∧ f3 i ≤ 3)) (h_f4 : (∀ i : Nat, 0 ≤ f4 i ∧ f4 i ≤ 3)) (h_f5 : (∀ i : Nat, 0 ≤ f5 i ∧ f5 i ≤ 13)) (h_f6 : (∀ i : Nat, 0 ≤ f6 i ∧ f6 i ≤ 13)) (h_f8 : (∀ i : Nat, (-1) ≤ f8 i ∧ f8 i ≤ 13)) (h_f9 : (∀ i : Nat, (-1) ≤ f9 i ∧ f9 i ≤ 13)) (hr_0 : 1 ≤ (f1 (0 : Int32).toNatClampNeg)) (hx_0 : (∀ x : Int32, 0 ≤ x → x < f1 (0 : Int32).toNatClampNeg → 1 ≤ f14 x.toNatClampNeg)) (hx_1 : (∀ i : Nat, 1 ≤ f14 (f3 i).toNatClampNeg)) (hx_2 : (∀ i : Nat, 1 ≤ f14 (f4 i).toNatClampNeg)) : zw (fn_X12_laysFront p1 v0_30 v0_33 w0_34 v0_41 v0_42 f1 f2 f3 f4 f5 f6 f7 f8 f9 f10 f11 f12 f13 f14 f15 f16 f17 f18 f19 f20 f21 f22) (fun r => 0 ≤ r.2.2.1 ∧ r.2.2.1 ≤ 1024 ∧ (∀ i : Nat, 0 ≤ r.2.2.2.1 i ∧ r.2.2.2.1 i ≤ 3) ∧ (∀ i : Nat, r.2.2.2.1 i = f3 i ∨ r.2.2.2.1 i = f4 i ∨ 0 ≤ r.2.2.2.1 i ∧ r.2.2.2.1 i < f1 (0 : Int32).toNatClampNeg)) := by
  unfold fn_X12_laysFront
  refine zw_zb0 (sf_X12_allChoices v0_30 f1 (by grind [zu_at, zu_atL]) (by grind [zu_at, zu_atL])) (fun o_1 ho_1 => ?_)
  refine zw_zl32 (fun s_5 => (∀ i : Nat, 0 ≤ s_5.2.2.2.2.2.2.1 i ∧ s_5.2.2.2.2.2.2.1 i ≤ 3) ∧ 0 ≤ s_5.2.2.2.1 ∧ s_5.1 ≤ o_1 ∧ s_5.2.2.2.1 ≤ s_5.1 ∧ (∀ i : Nat, s_5.2.2.2.2.2.2.1 i = f3 i ∨ s_5.2.2.2.2.2.2.1 i = f4 i ∨ 0 ≤ s_5.2.2.2.2.2.2.1 i ∧ s_5.2.2.2.2.2.2.1 i < f1 (0 : Int32).toNatClampNeg)) (fun s_5 => 1024 - s_5.1) (by (try dsimp only); grind [zu_at, zu_atL]) (by (try dsimp only); grind [zu_at, zu_atL]) (fun s_5 back_5 Hback_5 hback_5 => ?_)
  refine zw_if (fun c1 => ?_) (fun c1 => ?_)
  · refine zw_zl32 (fun s_7 => 0 ≤ s_7.1 ∧ s_7.1 ≤ s_7.2.1 ∧ s_7.2.1 ≤ s_5.2.2.2.1) (fun s_7 => 1024 - s_7.2.1) (by (try dsimp only); grind [zu_at, zu_atL]) (by (try dsimp only); grind [zu_at, zu_atL]) (fun s_7 back_7 Hback_7 hback_7 => ?_)
    refine zw_if (fun c2 => ?_) (fun c2 => ?_)
    · refine zw_some ?_
      first | trivial | (try dsimp only); grind [zu_at, zu_atL]
    refine zw_zj (fun _ => True) (fun s_9 Hj_9 => ?_) (fun j_9 hj_9 => ?_)
    · refine zw_zg32 1024 (by decide) (by grind [zu_at, zu_atL]) ?_
      refine zw_zg32 1024 (by decide) (by grind [zu_at, zu_atL]) ?_
      refine zw_zn (fun g_12 eg_12 => ?_)
      refine zw_zn (fun g_13 eg_13 => ?_)
      refine zw_zn (fun g_14 eg_14 => ?_)
      exact hback_7 _ (by grind [zu_at, zu_atL]) (by grind [zu_at, zu_atL]) (by grind [zu_at, zu_atL])
    refine zw_if (fun c3 => ?_) (fun c3 => ?_)
    · exact hj_9 _ (by grind [zu_at, zu_atL])
    refine zw_zg32 1024 (by decide) (by grind [zu_at, zu_atL]) ?_
    refine zw_zg32 1024 (by decide) (by grind [zu_at, zu_atL]) ?_
    refine zw_if (fun c4 => ?_) (fun c4 => ?_)
    · exact hj_9 _ (by grind [zu_at, zu_atL])
    exact hback_7 _ (by grind [zu_at, zu_atL]) (by grind [zu_at, zu_atL]) (by grind [zu_at, zu_atL])
  refine zw_zb0 (sf_X12_triesChoice s_5.1 v0_30 f2 f3 s_5.2.2.2.2.2.2.1 f5 f1 f6 (by grind [zu_at, zu_atL]) (by grind [zu_at, zu_atL]) (by grind [zu_at, zu_atL]) (by grind [zu_at, zu_atL]) (by grind [zu_at, zu_atL]) (by grind [zu_at, zu_atL]) (by grind [zu_at, zu_atL]) (by grind [zu_at, zu_atL]) (by grind [zu_at, zu_atL])) (fun o_19 ho_19 => ?_)
  refine zw_zb0 (sf_X12_passes v0_33 w0_34 f2 f7 f8 f9 s_5.2.2.2.2.1 f11 f12 s_5.2.2.2.2.2.1 o_19 f14 s_5.2.2.2.2.2.2.2.1 f16 f17 (by grind [zu_at, zu_atL]) (by grind [zu_at, zu_atL]) (by grind [zu_at, zu_atL]) (by grind [zu_at, zu_atL]) (by grind [zu_at, zu_atL])) (fun o_23 ho_23 => ?_)
  refine zw_if (fun c5 => ?_) (fun c5 => ?_)
  · exact hback_5 _ (by grind [zu_at, zu_atL]) (by grind [zu_at, zu_atL]) (by grind [zu_at, zu_atL])
  refine zw_zb0 (sf_X12_costTried f18 f2 f8 o_19 f9 f19 (by grind [zu_at, zu_atL]) (by grind [zu_at, zu_atL]) (by grind [zu_at, zu_atL]) (by grind [zu_at, zu_atL])) (fun o_28 ho_28 => ?_)
  refine zw_zg32 14 (by decide) (by grind [zu_at, zu_atL]) ?_
  refine zw_zb0 (sf_X12_laysCouple o_28 (o_23.2.2.2.2.2 p1.toNatClampNeg) s_5.2.2.2.1 s_5.2.2.2.2.2.2.2.2.1 s_5.2.2.2.2.2.2.2.2.2.1 s_5.2.2.2.2.2.2.2.2.2.2 (by grind [zu_at, zu_atL])) (fun o_33 ho_33 => ?_)
  exact hback_5 _ (by grind [zu_at, zu_atL]) (by grind [zu_at, zu_atL]) (by grind [zu_at, zu_atL])
set_option maxHeartbeats 1000000 in
theorem sf_X12_front (p1 : Int32) (p2 : Int32) (p3 : Int32) (v0_30 : Int32) (v0_33 : Int32) (w0_34 : Int64) (v0_38 : Int32) (v0_41 : Int32) (v0_42 : Int32) (v0_57 : Int32) (f1 : Nat → Int32) (f2 : Nat → Int32) (f3 : Nat → Int32) (f4 : Nat → Int32) (f5 : Nat → Int32) (f6 : Nat → Int32) (f7 : Nat → Int32) (f8 : Nat → Int32) (f9 : Nat → Int32) (f10 : Nat → Int32) (f11 : Nat → Int32) (f12 : Nat → Int64) (f13 : Nat → Int64) (f14 : Nat → Int64) (f15 : Nat → Int64) (f16 : Nat → Int32) (f17 : Nat → Int64) (f18 : Nat → Int32) (f19 : Nat → Int32) (f20 : Nat → Int32) (f21 : Nat → Int32) (f22 : Nat → Int64) (f23 : Nat → Int32) (h_v0_30 : 0 ≤ v0_30 ∧ v0_30 ≤ 14) (h_v0_38 : 0 ≤ v0_38 ∧ v0_38 ≤ 1) (h_v0_57 : 0 ≤ v0_57 ∧ v0_57 ≤ 1024) (h_f1 : (∀ i : Nat, 0 ≤ f1 i ∧ f1 i ≤ 14)) (h_f3 : (∀ i : Nat, 0 ≤ f3 i ∧ f3 i ≤ 13)) (h_f4 : (∀ i : Nat, (-1) ≤ f4 i ∧ f4 i ≤ 3)) (h_f5 : (∀ i : Nat, 0 ≤ f5 i ∧ f5 i ≤ 13)) (h_f6 : (∀ i : Nat, 0 ≤ f6 i ∧ f6 i ≤ 4)) (h_f7 : (∀ i : Nat, 0 ≤ f7 i ∧ f7 i ≤ 3)) (h_f8 : (∀ i : Nat, 0 ≤ f8 i ∧ f8 i ≤ 3)) (h_f10 : (∀ i : Nat, (-1) ≤ f10 i ∧ f10 i ≤ 13)) (h_f11 : (∀ i : Nat, (-1) ≤ f11 i ∧ f11 i ≤ 13)) (hx_0 : f1 (0 : Int32).toNatClampNeg ≤ 0 ∨ 1 ≤ f6 (0 : Int32).toNatClampNeg ∧ (∀ x : Int32, 0 ≤ x → x < f6 (0 : Int32).toNatClampNeg → 1 ≤ f16 x.toNatClampNeg) ∧ (∀ i : Nat, 1 ≤ f16 (f7 i).toNatClampNeg) ∧ (∀ i : Nat, 1 ≤ f16 (f8 i).toNatClampNeg)) : zw (fn_X12_front p1 p2 p3 v0_30 v0_33 w0_34 v0_38 v0_41 v0_42 v0_57 f1 f2 f3 f4 f5 f6 f7 f8 f9 f10 f11 f12 f13 f14 f15 f16 f17 f18 f19 f20 f21 f22 f23) (fun r => 0 ≤ r.2.1 ∧ r.2.1 ≤ 14 ∧ 0 ≤ r.2.2.2.2.2.1 ∧ r.2.2.2.2.2.1 ≤ 1024 ∧ (∀ i : Nat, 0 ≤ r.2.2.2.2.2.2.1 i ∧ r.2.2.2.2.2.2.1 i ≤ 13) ∧ (∀ i : Nat, 0 ≤ r.2.2.2.2.2.2.2.1 i ∧ r.2.2.2.2.2.2.2.1 i ≤ 3) ∧ (¬ r.1 = (-1000000000000000) → (f1 (0 : Int32).toNatClampNeg) ≤ r.2.2.1 + 15 ∧ (f1 (0 : Int32).toNatClampNeg) ≤ v0_38 + 13 ∧ (f6 (0 : Int32).toNatClampNeg) ≤ 4 ∧ (f6 (0 : Int32).toNatClampNeg) ≤ r.2.2.1 + 5 ∧ (f6 (0 : Int32).toNatClampNeg) ≤ v0_38 + 3 ∧ 1 ≤ (f6 (0 : Int32).toNatClampNeg) ∧ 0 ≤ p1 ∧ (-1) ≤ p2 ∧ 0 ≤ p3 ∧ (-1) ≤ r.2.2.1 ∧ 1 ≤ v0_38 ∧ p1 < (f1 (0 : Int32).toNatClampNeg) ∧ p2 < r.2.2.2.2.2.1 ∧ p3 ≤ 2 ∧ p3 ≤ p2 + 2 ∧ p3 ≤ r.2.2.1 + 3 ∧ p3 ≤ v0_38 + 1 ∧ r.2.1 ≤ 5 ∧ r.2.1 ≤ r.2.2.1 + 6 ∧ r.2.1 ≤ v0_38 + 4 ∧ r.2.2.1 + 2 ≤ (f6 (0 : Int32).toNatClampNeg) ∧ r.2.2.1 ≤ (-1) ∧ r.2.2.1 < p1 ∧ r.2.2.1 ≤ p2 ∧ r.2.2.1 < p3 ∧ r.2.2.1 < r.2.1 ∧ r.2.2.1 < v0_30 ∧ r.2.2.1 + 2 ≤ v0_38 ∧ r.2.2.1 < v0_57 ∧ v0_30 ≤ r.2.2.1 + 15 ∧ v0_30 ≤ v0_38 + 13 ∧ v0_38 ≤ (f6 (0 : Int32).toNatClampNeg) ∧ v0_38 ≤ p1 + 1 ∧ v0_38 ≤ p2 + 2 ∧ v0_38 ≤ p3 + 1 ∧ v0_38 ≤ r.2.2.1 + 2) ∧ (∀ i : Nat, r.2.2.2.2.2.2.2.1 i = f7 i ∨ r.2.2.2.2.2.2.2.1 i = f8 i ∨ 0 ≤ r.2.2.2.2.2.2.2.1 i ∧ r.2.2.2.2.2.2.2.1 i < f6 (0 : Int32).toNatClampNeg)) := by
  unfold fn_X12_front
  refine zw_zb0 (sf_X12_isAnswer p1 f1 f2 (by grind [zu_at, zu_atL])) (fun o_1 ho_1 => ?_)
  refine zw_if (fun c1 => ?_) (fun c1 => ?_)
  · refine zw_some ?_
    first | trivial | (try dsimp only); grind [zu_at, zu_atL]
  refine zw_zb0 (sf_X12_canSearch v0_38 f1 f3 f4 f5 (by grind [zu_at, zu_atL]) (by grind [zu_at, zu_atL]) (by grind [zu_at, zu_atL]) (by grind [zu_at, zu_atL]) (by grind [zu_at, zu_atL])) (fun o_6 ho_6 => ?_)
  refine zw_if (fun c2 => ?_) (fun c2 => ?_)
  · refine zw_some ?_
    first | trivial | (try dsimp only); grind [zu_at, zu_atL]
  refine zw_zb0 (sf_X12_isIn p3.toInt64 (0 : Int64) (2 : Int64)) (fun o_11 ho_11 => ?_)
  refine zw_if (fun c3 => ?_) (fun c3 => ?_)
  · refine zw_some ?_
    first | trivial | (try dsimp only); grind [zu_at, zu_atL]
  refine zw_zb0 (sf_X12_laysFront p1 o_6.2.1 o_6.2.2.1 w0_34 v0_41 v0_42 f6 f1 f7 f8 o_6.2.2.2 f3 f9 f10 f11 f12 f13 f14 f15 f16 f17 f18 f2 f19 f20 f21 f22 f23 (by grind [zu_at, zu_atL]) (by grind [zu_at, zu_atL]) (by grind [zu_at, zu_atL]) (by grind [zu_at, zu_atL]) (by grind [zu_at, zu_atL]) (by grind [zu_at, zu_atL]) (by grind [zu_at, zu_atL]) (by grind [zu_at, zu_atL]) (by grind [zu_at, zu_atL]) (by grind [zu_at, zu_atL]) (by grind [zu_at, zu_atL]) (by grind [zu_at, zu_atL]) (by grind [zu_at, zu_atL]) (by grind [zu_at, zu_atL])) (fun o_16 ho_16 => ?_)
  refine zw_if (fun c4 => ?_) (fun c4 => ?_)
  · refine zw_if (fun c5 => ?_) (fun c5 => ?_)
    · refine zw_some ?_
      first | trivial | (try dsimp only); grind [zu_at, zu_atL]
    refine zw_some ?_
    first | trivial | (try dsimp only); grind [zu_at, zu_atL]
  refine zw_zb0 (sf_X12_isIn p2.toInt64 (0 : Int64) (o_16.2.2.1.toInt64 - (1 : Int64))) (fun o_21 ho_21 => ?_)
  refine zw_if (fun c6 => ?_) (fun c6 => ?_)
  · refine zw_some ?_
    first | trivial | (try dsimp only); grind [zu_at, zu_atL]
  refine zw_if (fun c7 => ?_) (fun c7 => ?_)
  · refine zw_zg32 1024 (by decide) (by grind [zu_at, zu_atL]) ?_
    refine zw_some ?_
    first | trivial | (try dsimp only); grind [zu_at, zu_atL]
  refine zw_if (fun c8 => ?_) (fun c8 => ?_)
  · refine zw_zg32 1024 (by decide) (by grind [zu_at, zu_atL]) ?_
    refine zw_some ?_
    first | trivial | (try dsimp only); grind [zu_at, zu_atL]
  refine zw_zg32 1024 (by decide) (by grind [zu_at, zu_atL]) ?_
  refine zw_some ?_
  first | trivial | (try dsimp only); grind [zu_at, zu_atL]
set_option maxHeartbeats 1000000 in
theorem sf_X12_least (p1 : Int32) (p2 : Int32) (v0_30 : Int32) (v0_33 : Int32) (w0_34 : Int64) (v0_38 : Int32) (v0_41 : Int32) (v0_42 : Int32) (f1 : Nat → Int32) (f2 : Nat → Int32) (f3 : Nat → Int32) (f4 : Nat → Int32) (f5 : Nat → Int32) (f6 : Nat → Int32) (f7 : Nat → Int32) (f8 : Nat → Int32) (f9 : Nat → Int32) (f10 : Nat → Int32) (f11 : Nat → Int32) (f12 : Nat → Int32) (f13 : Nat → Int32) (f14 : Nat → Int64) (f15 : Nat → Int64) (f16 : Nat → Int64) (f17 : Nat → Int64) (f18 : Nat → Int32) (f19 : Nat → Int64) (f20 : Nat → Int32) (h_v0_30 : 0 ≤ v0_30 ∧ v0_30 ≤ 14) (h_v0_38 : 0 ≤ v0_38 ∧ v0_38 ≤ 1) (h_f1 : (∀ i : Nat, 0 ≤ f1 i ∧ f1 i ≤ 14)) (h_f3 : (∀ i : Nat, 0 ≤ f3 i ∧ f3 i ≤ 13)) (h_f4 : (∀ i : Nat, (-1) ≤ f4 i ∧ f4 i ≤ 3)) (h_f5 : (∀ i : Nat, 0 ≤ f5 i ∧ f5 i ≤ 13)) (h_f6 : (∀ i : Nat, 0 ≤ f6 i ∧ f6 i ≤ 4)) (h_f7 : (∀ i : Nat, 0 ≤ f7 i ∧ f7 i ≤ 3)) (h_f8 : (∀ i : Nat, 0 ≤ f8 i ∧ f8 i ≤ 3)) (h_f10 : (∀ i : Nat, (-1) ≤ f10 i ∧ f10 i ≤ 13)) (h_f11 : (∀ i : Nat, (-1) ≤ f11 i ∧ f11 i ≤ 13)) (hx_0 : f1 (0 : Int32).toNatClampNeg ≤ 0 ∨ 1 ≤ f6 (0 : Int32).toNatClampNeg ∧ (∀ x : Int32, 0 ≤ x → x < f6 (0 : Int32).toNatClampNeg → 1 ≤ f18 x.toNatClampNeg) ∧ (∀ i : Nat, 1 ≤ f18 (f7 i).toNatClampNeg) ∧ (∀ i : Nat, 1 ≤ f18 (f8 i).toNatClampNeg)) : zw (fn_X12_least p1 p2 v0_30 v0_33 w0_34 v0_38 v0_41 v0_42 f1 f2 f3 f4 f5 f6 f7 f8 f9 f10 f11 f12 f13 f14 f15 f16 f17 f18 f19 f20) (fun r => 0 ≤ r.2.1 ∧ r.2.1 ≤ 14 ∧ (∀ i : Nat, 0 ≤ r.2.2.2.2.2.1 i ∧ r.2.2.2.2.2.1 i ≤ 13) ∧ (∀ i : Nat, 0 ≤ r.2.2.2.2.2.2.1 i ∧ r.2.2.2.2.2.2.1 i ≤ 3) ∧ (¬ r.1 = (-1000000000000000) → (f1 (0 : Int32).toNatClampNeg) ≤ r.2.2.1 + 15 ∧ (f1 (0 : Int32).toNatClampNeg) ≤ v0_38 + 13 ∧ 0 ≤ p1 ∧ (-1) ≤ r.2.2.1 ∧ 1 ≤ v0_38 ∧ p1 < (f1 (0 : Int32).toNatClampNeg) ∧ r.2.1 ≤ 5 ∧ r.2.1 ≤ r.2.2.1 + 6 ∧ r.2.1 ≤ v0_38 + 4 ∧ r.2.2.1 ≤ (-1) ∧ r.2.2.1 < p1 ∧ r.2.2.1 < r.2.1 ∧ r.2.2.1 < v0_30 ∧ r.2.2.1 + 2 ≤ v0_38 ∧ v0_30 ≤ r.2.2.1 + 15 ∧ v0_30 ≤ v0_38 + 13 ∧ v0_38 ≤ p1 + 1 ∧ v0_38 ≤ r.2.2.1 + 2) ∧ (∀ i : Nat, r.2.2.2.2.2.2.1 i = f7 i ∨ r.2.2.2.2.2.2.1 i = f8 i ∨ 0 ≤ r.2.2.2.2.2.2.1 i ∧ r.2.2.2.2.2.2.1 i < f6 (0 : Int32).toNatClampNeg)) := by
  unfold fn_X12_least
  refine zw_zb0 (sf_X12_isAnswer p1 f1 f2 (by grind [zu_at, zu_atL])) (fun o_1 ho_1 => ?_)
  refine zw_if (fun c1 => ?_) (fun c1 => ?_)
  · refine zw_some ?_
    first | trivial | (try dsimp only); grind [zu_at, zu_atL]
  refine zw_zb0 (sf_X12_canSearch v0_38 f1 f3 f4 f5 (by grind [zu_at, zu_atL]) (by grind [zu_at, zu_atL]) (by grind [zu_at, zu_atL]) (by grind [zu_at, zu_atL]) (by grind [zu_at, zu_atL])) (fun o_6 ho_6 => ?_)
  refine zw_if (fun c2 => ?_) (fun c2 => ?_)
  · refine zw_some ?_
    first | trivial | (try dsimp only); grind [zu_at, zu_atL]
  refine zw_zb0 (sf_X12_allChoices o_6.2.1 f6 (by grind [zu_at, zu_atL]) (by grind [zu_at, zu_atL])) (fun o_11 ho_11 => ?_)
  refine zw_zl32 (fun s_15 => (∀ i : Nat, 0 ≤ s_15.2.2.2.2.2.2.1 i ∧ s_15.2.2.2.2.2.2.1 i ≤ 3) ∧ 0 ≤ s_15.2.1 ∧ o_1 ≤ s_15.2.1 + 1 ∧ o_6.1 ≤ s_15.2.1 + 1 ∧ o_6.2.2.1 < s_15.2.1 ∧ s_15.2.1 ≤ o_11 ∧ v0_38 ≤ s_15.2.1 + 1 ∧ (∀ i : Nat, s_15.2.2.2.2.2.2.1 i = f7 i ∨ s_15.2.2.2.2.2.2.1 i = f8 i ∨ 0 ≤ s_15.2.2.2.2.2.2.1 i ∧ s_15.2.2.2.2.2.2.1 i < f6 (0 : Int32).toNatClampNeg)) (fun s_15 => 1024 - s_15.2.1) (by (try dsimp only); grind [zu_at, zu_atL]) (by (try dsimp only); grind [zu_at, zu_atL]) (fun s_15 back_15 Hback_15 hback_15 => ?_)
  refine zw_if (fun c3 => ?_) (fun c3 => ?_)
  · refine zw_some ?_
    first | trivial | (try dsimp only); grind [zu_at, zu_atL]
  refine zw_zb0 (sf_X12_triesChoice s_15.2.1 o_6.2.1 f1 f7 s_15.2.2.2.2.2.2.1 o_6.2.2.2 f6 f3 (by grind [zu_at, zu_atL]) (by grind [zu_at, zu_atL]) (by grind [zu_at, zu_atL]) (by grind [zu_at, zu_atL]) (by grind [zu_at, zu_atL]) (by grind [zu_at, zu_atL]) (by grind [zu_at, zu_atL]) (by grind [zu_at, zu_atL]) (by grind [zu_at, zu_atL])) (fun o_17 ho_17 => ?_)
  refine zw_zb0 (sf_X12_costTried f9 f1 f10 o_17 f11 f12 (by grind [zu_at, zu_atL]) (by grind [zu_at, zu_atL]) (by grind [zu_at, zu_atL]) (by grind [zu_at, zu_atL])) (fun o_21 ho_21 => ?_)
  refine zw_if (fun c4 => ?_) (fun c4 => ?_)
  · exact hback_15 _ (by grind [zu_at, zu_atL]) (by grind [zu_at, zu_atL]) (by grind [zu_at, zu_atL])
  refine zw_zb0 (sf_X12_passes o_6.2.2.1 w0_34 f1 f13 f10 f11 s_15.2.2.2.2.1 f15 f16 s_15.2.2.2.2.2.1 o_17 f18 s_15.2.2.2.2.2.2.2 f20 f2 (by grind [zu_at, zu_atL]) (by grind [zu_at, zu_atL]) (by grind [zu_at, zu_atL]) (by grind [zu_at, zu_atL]) (by grind [zu_at, zu_atL])) (fun o_26 ho_26 => ?_)
  refine zw_if (fun c5 => ?_) (fun c5 => ?_)
  · exact hback_15 _ (by grind [zu_at, zu_atL]) (by grind [zu_at, zu_atL]) (by grind [zu_at, zu_atL])
  refine zw_if (fun c6 => ?_) (fun c6 => ?_)
  · refine zw_zg32 14 (by decide) (by grind [zu_at, zu_atL]) ?_
    exact hback_15 _ (by grind [zu_at, zu_atL]) (by grind [zu_at, zu_atL]) (by grind [zu_at, zu_atL])
  refine zw_zg32 14 (by decide) (by grind [zu_at, zu_atL]) ?_
  refine zw_zb0 (sf_X12_lesser s_15.1 (o_26.2.2.2.2.2 p1.toNatClampNeg)) (fun o_33 ho_33 => ?_)
  exact hback_15 _ (by grind [zu_at, zu_atL]) (by grind [zu_at, zu_atL]) (by grind [zu_at, zu_atL])
set_option maxHeartbeats 1000000 in
theorem sf_X12_byteOf (j0 : Int64) (p1 : Int32) : zw (fn_X12_byteOf j0 p1) (fun r => 0 ≤ r ∧ r ≤ 255) := by
  unfold fn_X12_byteOf
  refine zw_some ?_
  first | trivial | (try dsimp only); grind [zu_at, zu_atL]
set_option maxHeartbeats 1000000 in
theorem sf_X12_certificate (p1 : Int32) (w0_34 : Int64) (v0_38 : Int32) (v0_41 : Int32) (v0_42 : Int32) (f1 : Nat → Int32) (f2 : Nat → Int32) (f3 : Nat → Int32) (f4 : Nat → Int32) (f5 : Nat → Int32) (f6 : Nat → Int32) (f7 : Nat → Int64) (f8 : Nat → Int64) (f9 : Nat → Int64) (f10 : Nat → Int64) (f11 : Nat → Int32) (f12 : Nat → Int64) (f13 : Nat → Int32) (f14 : Nat → Int32) (h_v0_38 : 0 ≤ v0_38 ∧ v0_38 ≤ 1) (h_f1 : (∀ i : Nat, 0 ≤ f1 i ∧ f1 i ≤ 14)) (h_f2 : (∀ i : Nat, 0 ≤ f2 i ∧ f2 i ≤ 3)) (h_f3 : (∀ i : Nat, 0 ≤ f3 i ∧ f3 i ≤ 3)) (h_f5 : (∀ i : Nat, (-1) ≤ f5 i ∧ f5 i ≤ 13)) (h_f6 : (∀ i : Nat, (-1) ≤ f6 i ∧ f6 i ≤ 13)) (hx_0 : f1 (0 : Int32).toNatClampNeg ≤ 0 ∨ (∀ i : Nat, 1 ≤ f11 (f2 i).toNatClampNeg) ∧ (∀ i : Nat, 1 ≤ f11 (f3 i).toNatClampNeg)) : zw (fn_X12_certificate p1 w0_34 v0_38 v0_41 v0_42 f1 f2 f3 f4 f5 f6 f7 f8 f9 f10 f11 f12 f13 f14) (fun r => (∀ i : Nat, 0 ≤ r.2.2.2.2.1 i ∧ r.2.2.2.2.1 i ≤ 3) ∧ (-1) ≤ r.1 ∧ (-1) ≤ r.2.1 ∧ r.2.1 ≤ (-1) ∧ r.2.1 ≤ r.1 ∧ r.2.1 < v0_38 ∧ v0_38 ≤ r.2.1 + 2 ∧ (r.1 = (-1) → r.1 ≤ r.2.1 ∧ r.1 < v0_38) ∧ (¬ r.1 = (-1) → (25 * (f1 (0 : Int32).toNatClampNeg)) ≤ 350 ∧ (f1 (0 : Int32).toNatClampNeg) ≤ 14 ∧ (f1 (0 : Int32).toNatClampNeg) ≤ r.2.1 + 15 ∧ (f1 (0 : Int32).toNatClampNeg) ≤ r.2.2.2.1 + 14 ∧ (f1 (0 : Int32).toNatClampNeg) ≤ v0_38 + 13 ∧ (p1 - p1) ≤ p1 ∧ (p1 / 25) ≤ 13 ∧ (p1 / 25) ≤ p1 ∧ (p1 / 25) ≤ r.2.1 + 14 ∧ (p1 / 25) ≤ r.2.2.2.1 + 13 ∧ (p1 / 25) ≤ v0_38 + 12 ∧ 25 ≤ (25 * (f1 (0 : Int32).toNatClampNeg)) ∧ 1 ≤ (f1 (0 : Int32).toNatClampNeg) ∧ 0 ≤ (p1 / 25) ∧ 0 ≤ r.1 ∧ (-2) ≤ r.2.2.1 ∧ 0 ≤ r.2.2.2.1 ∧ 1 ≤ v0_38 ∧ p1 < (25 * (f1 (0 : Int32).toNatClampNeg)) ∧ r.2.1 + 2 ≤ (f1 (0 : Int32).toNatClampNeg) ∧ r.2.1 < (p1 / 25) ∧ r.2.1 < r.1 ∧ r.2.1 ≤ r.2.2.1 + 1 ∧ r.2.1 < r.2.2.2.1 ∧ r.2.1 + 2 ≤ v0_38 ∧ r.2.2.1 ≤ 12 ∧ r.2.2.1 ≤ r.2.1 + 13 ∧ r.2.2.1 ≤ r.2.2.2.1 + 12 ∧ r.2.2.1 ≤ v0_38 + 11 ∧ r.2.2.2.1 < (f1 (0 : Int32).toNatClampNeg) ∧ r.2.2.2.1 ≤ (p1 / 25) ∧ r.2.2.2.1 ≤ 0 ∧ r.2.2.2.1 ≤ r.1 ∧ r.2.2.2.1 ≤ r.2.1 + 1 ∧ r.2.2.2.1 ≤ r.2.2.1 + 2 ∧ r.2.2.2.1 < v0_38 ∧ v0_38 ≤ (f1 (0 : Int32).toNatClampNeg) ∧ v0_38 ≤ (p1 / 25) + 1 ∧ v0_38 ≤ r.1 + 1 ∧ v0_38 ≤ r.2.2.1 + 3 ∧ v0_38 ≤ r.2.2.2.1 + 1) ∧ (∀ i : Nat, r.2.2.2.2.1 i = f2 i ∨ r.2.2.2.2.1 i = f3 i)) := by
  unfold fn_X12_certificate
  refine zw_zb0 (sf_X12_handPasses w0_34 v0_38 v0_41 v0_42 f1 f2 f3 f4 f5 f6 f7 f8 f9 f10 f11 f12 f13 f14 (by grind [zu_at, zu_atL]) (by grind [zu_at, zu_atL]) (by grind [zu_at, zu_atL]) (by grind [zu_at, zu_atL]) (by grind [zu_at, zu_atL]) (by grind [zu_at, zu_atL]) (by grind [zu_at, zu_atL])) (fun o_1 ho_1 => ?_)
  refine zw_if (fun c1 => ?_) (fun c1 => ?_)
  · refine zw_some ?_
    first | trivial | (try dsimp only); grind [zu_at, zu_atL]
  refine zw_zb0 (sf_X12_isIn p1.toInt64 (0 : Int64) ((25 * (f1 (0 : Int32).toNatClampNeg)).toInt64 - (1 : Int64))) (fun o_6 ho_6 => ?_)
  refine zw_if (fun c2 => ?_) (fun c2 => ?_)
  · refine zw_some ?_
    first | trivial | (try dsimp only); grind [zu_at, zu_atL]
  refine zw_if (fun c3 => ?_) (fun c3 => ?_)
  · refine zw_zg32 14 (by decide) (by grind [zu_at, zu_atL]) ?_
    refine zw_some ?_
    first | trivial | (try dsimp only); grind [zu_at, zu_atL]
  refine zw_if (fun c4 => ?_) (fun c4 => ?_)
  · refine zw_if (fun c5 => ?_) (fun c5 => ?_)
    · refine zw_zg32 14 (by decide) (by grind [zu_at, zu_atL]) ?_
      refine zw_zb0 (sf_X12_byteOf (o_1.2.2.2.2.2.2.2 (p1 / 25).toNatClampNeg) ((((p1 - p1) / 25) * 25) - 17)) (fun o_15 ho_15 => ?_)
      refine zw_some ?_
      first | trivial | (try dsimp only); grind [zu_at, zu_atL]
    refine zw_zg32 14 (by decide) (by grind [zu_at, zu_atL]) ?_
    refine zw_zb0 (sf_X12_byteOf (o_1.2.2.2.2.2.2.1 (p1 / 25).toNatClampNeg) ((((p1 - p1) / 25) * 25) - 9)) (fun o_20 ho_20 => ?_)
    refine zw_some ?_
    first | trivial | (try dsimp only); grind [zu_at, zu_atL]
  refine zw_zg32 14 (by decide) (by grind [zu_at, zu_atL]) ?_
  refine zw_zb0 (sf_X12_byteOf (o_1.2.2.2.2.2.1 (p1 / 25).toNatClampNeg) ((((p1 - p1) / 25) * 25) - 1)) (fun o_25 ho_25 => ?_)
  refine zw_some ?_
  first | trivial | (try dsimp only); grind [zu_at, zu_atL]
set_option maxHeartbeats 1000000 in
theorem sf_X12_readsLong (p1 : Int32) (f1 : Nat → Int32) (h_p1 : 0 ≤ p1 ∧ p1 ≤ 1192) (h_f1 : (∀ i : Nat, 0 ≤ f1 i ∧ f1 i ≤ 255)) : zw (fn_X12_readsLong p1 f1) (fun r => (-1000000000000) ≤ r ∧ r ≤ 1000000000000) := by
  unfold fn_X12_readsLong
  refine zw_zl32 (fun s_1 => 0 ≤ s_1.2 ∧ s_1.2 ≤ 8) (fun s_1 => 8 - s_1.2) (by (try dsimp only); grind [zu_at, zu_atL]) (by (try dsimp only); grind [zu_at, zu_atL]) (fun s_1 back_1 Hback_1 hback_1 => ?_)
  refine zw_if (fun c1 => ?_) (fun c1 => ?_)
  · refine zw_if (fun c2 => ?_) (fun c2 => ?_)
    · refine zw_if (fun c3 => ?_) (fun c3 => ?_)
      · refine zw_some ?_
        first | trivial | (try dsimp only); grind [zu_at, zu_atL]
      refine zw_some ?_
      first | trivial | (try dsimp only); grind [zu_at, zu_atL]
    refine zw_some ?_
    first | trivial | (try dsimp only); grind [zu_at, zu_atL]
  refine zw_zg32 1200 (by decide) (by grind [zu_at, zu_atL]) ?_
  refine zw_zn (fun x_6 ex_6 => ?_)
  exact hback_1 _ (by grind [zu_at, zu_atL]) (by grind [zu_at, zu_atL]) (by grind [zu_at, zu_atL])
set_option maxHeartbeats 1000000 in
theorem sf_X12_isFormatSaid (p1 : Int32) (f1 : Nat → Int32) (f2 : Nat → Int32) (f3 : Nat → Int32) (f4 : Nat → Int32) (f5 : Nat → Int32) (h_p1 : 0 ≤ p1 ∧ p1 ≤ 13) (h_f2 : (∀ i : Nat, 0 ≤ f2 i ∧ f2 i ≤ 4)) (h_f3 : (∀ i : Nat, 0 ≤ f3 i ∧ f3 i ≤ 14)) (h_f4 : (∀ i : Nat, 0 ≤ f4 i ∧ f4 i ≤ 13)) (h_f5 : (∀ i : Nat, (-1) ≤ f5 i ∧ f5 i ≤ 3)) : zw (fn_X12_isFormatSaid p1 f1 f2 f3 f4 f5) (fun r => 0 ≤ r ∧ r ≤ 1 ∧ r ≤ (f2 (0 : Int32).toNatClampNeg) ∧ (r = 0 → r ≤ p1) ∧ (¬ r = 0 → (f1 p1.toNatClampNeg) < (f2 (0 : Int32).toNatClampNeg) ∧ (f2 (0 : Int32).toNatClampNeg) ≤ r + 3 ∧ (f3 (0 : Int32).toNatClampNeg) ≤ 14 ∧ (f3 (0 : Int32).toNatClampNeg) ≤ r + 13 ∧ 0 ≤ (f1 p1.toNatClampNeg) ∧ 0 ≤ (f3 (0 : Int32).toNatClampNeg) ∧ 1 ≤ r ∧ p1 ≤ r + 12 ∧ r ≤ (f1 p1.toNatClampNeg) + 1 ∧ r ≤ (f3 (0 : Int32).toNatClampNeg) + 1) ∧ (r = 1 → (f1 p1.toNatClampNeg) < (f2 (0 : Int32).toNatClampNeg) ∧ (f2 (0 : Int32).toNatClampNeg) ≤ r + 3 ∧ (f3 (0 : Int32).toNatClampNeg) ≤ 14 ∧ (f3 (0 : Int32).toNatClampNeg) ≤ r + 13 ∧ 0 ≤ (f1 p1.toNatClampNeg) ∧ 0 ≤ (f3 (0 : Int32).toNatClampNeg) ∧ p1 ≤ r + 12 ∧ r ≤ (f1 p1.toNatClampNeg) + 1 ∧ r ≤ (f3 (0 : Int32).toNatClampNeg) + 1) ∧ (¬ r = 1 → r ≤ 0 ∧ r ≤ p1)) := by
  unfold fn_X12_isFormatSaid
  refine zw_zg32 14 (by decide) (by grind [zu_at, zu_atL]) ?_
  refine zw_zb0 (sf_X12_isFormat (f1 p1.toNatClampNeg) f2 (by grind [zu_at, zu_atL])) (fun o_2 ho_2 => ?_)
  refine zw_if (fun c1 => ?_) (fun c1 => ?_)
  · refine zw_some ?_
    first | trivial | (try dsimp only); grind [zu_at, zu_atL]
  refine zw_zl32 (fun s_7 => 0 ≤ s_7 ∧ o_2 ≤ s_7 + 1 ∧ s_7 ≤ 14 ∧ s_7 ≤ o_2 + 13) (fun s_7 => 14 - s_7) (by (try dsimp only); grind [zu_at, zu_atL]) (by (try dsimp only); grind [zu_at, zu_atL]) (fun s_7 back_7 Hback_7 hback_7 => ?_)
  refine zw_if (fun c2 => ?_) (fun c2 => ?_)
  · refine zw_some ?_
    first | trivial | (try dsimp only); grind [zu_at, zu_atL]
  refine zw_zg32 28 (by decide) (by grind [zu_at, zu_atL]) ?_
  refine zw_zg32 28 (by decide) (by grind [zu_at, zu_atL]) ?_
  refine zw_if (fun c3 => ?_) (fun c3 => ?_)
  · refine zw_zj (fun _ => True) (fun s_12 Hj_12 => ?_) (fun j_12 hj_12 => ?_)
    · refine zw_zg32 28 (by decide) (by grind [zu_at, zu_atL]) ?_
      refine zw_if (fun c4 => ?_) (fun c4 => ?_)
      · exact hback_7 _ (by grind [zu_at, zu_atL]) (by grind [zu_at, zu_atL]) (by grind [zu_at, zu_atL])
      refine zw_zg32 14 (by decide) (by grind [zu_at, zu_atL]) ?_
      refine zw_if (fun c5 => ?_) (fun c5 => ?_)
      · exact hback_7 _ (by grind [zu_at, zu_atL]) (by grind [zu_at, zu_atL]) (by grind [zu_at, zu_atL])
      refine zw_some ?_
      first | trivial | (try dsimp only); grind [zu_at, zu_atL]
    refine zw_if (fun c6 => ?_) (fun c6 => ?_)
    · exact hj_12 _ (by grind [zu_at, zu_atL])
    refine zw_zg32 14 (by decide) (by grind [zu_at, zu_atL]) ?_
    refine zw_zg32 14 (by decide) (by grind [zu_at, zu_atL]) ?_
    refine zw_if (fun c7 => ?_) (fun c7 => ?_)
    · exact hj_12 _ (by grind [zu_at, zu_atL])
    refine zw_some ?_
    first | trivial | (try dsimp only); grind [zu_at, zu_atL]
  exact hback_7 _ (by grind [zu_at, zu_atL]) (by grind [zu_at, zu_atL]) (by grind [zu_at, zu_atL])
set_option maxHeartbeats 1000000 in
theorem sf_X12_breaks (p1 : Int32) (v0_33 : Int32) (w0_34 : Int64) (f1 : Nat → Int32) (f2 : Nat → Int32) (f3 : Nat → Int32) (f4 : Nat → Int32) (f5 : Nat → Int32) (f6 : Nat → Int32) (f7 : Nat → Int32) (f8 : Nat → Int32) (f9 : Nat → Int32) (f10 : Nat → Int64) (f11 : Nat → Int64) (f12 : Nat → Int64) (f13 : Nat → Int64) (f14 : Nat → Int32) (f15 : Nat → Int64) (f16 : Nat → Int64) (f17 : Nat → Int64) (f18 : Nat → Int64) (f19 : Nat → Int32) (f20 : Nat → Int32) (h_p1 : 0 ≤ p1 ∧ p1 ≤ 13) (h_f2 : (∀ i : Nat, 0 ≤ f2 i ∧ f2 i ≤ 4)) (h_f3 : (∀ i : Nat, 0 ≤ f3 i ∧ f3 i ≤ 14)) (h_f4 : (∀ i : Nat, 0 ≤ f4 i ∧ f4 i ≤ 13)) (h_f5 : (∀ i : Nat, (-1) ≤ f5 i ∧ f5 i ≤ 3)) (h_f6 : (∀ i : Nat, 0 ≤ f6 i ∧ f6 i ≤ 3)) (h_f8 : (∀ i : Nat, (-1) ≤ f8 i ∧ f8 i ≤ 13)) (h_f9 : (∀ i : Nat, (-1) ≤ f9 i ∧ f9 i ≤ 13)) (hr_0 : 1 ≤ (f2 (0 : Int32).toNatClampNeg)) (hx_0 : (∀ x : Int32, 0 ≤ x → x < f2 (0 : Int32).toNatClampNeg → 1 ≤ f14 x.toNatClampNeg)) (hx_1 : (∀ i : Nat, 1 ≤ f14 (f6 i).toNatClampNeg)) : zw (fn_X12_breaks p1 v0_33 w0_34 f1 f2 f3 f4 f5 f6 f7 f8 f9 f10 f11 f12 f13 f14 f15 f16 f17 f18 f19 f20) (fun r => (∀ i : Nat, 0 ≤ r.2.1 i ∧ r.2.1 i ≤ 3) ∧ 0 ≤ r.1 ∧ r.1 ≤ 6 ∧ (∀ i : Nat, r.2.1 i = f6 i ∨ 0 ≤ r.2.1 i ∧ r.2.1 i < f2 (0 : Int32).toNatClampNeg)) := by
  unfold fn_X12_breaks
  refine zw_zb0 (sf_X12_isFormatSaid p1 f1 f2 f3 f4 f5 (by grind [zu_at, zu_atL]) (by grind [zu_at, zu_atL]) (by grind [zu_at, zu_atL]) (by grind [zu_at, zu_atL]) (by grind [zu_at, zu_atL])) (fun o_1 ho_1 => ?_)
  refine zw_if (fun c1 => ?_) (fun c1 => ?_)
  · refine zw_some ?_
    first | trivial | (try dsimp only); grind [zu_at, zu_atL]
  refine zw_zg32 14 (by decide) (by grind [zu_at, zu_atL]) ?_
  refine zw_zb0 (sf_X12_laysRange p1 v0_33 w0_34 f7 f8 f9 f10 f11 f12 f13 (by grind [zu_at, zu_atL]) (by grind [zu_at, zu_atL]) (by grind [zu_at, zu_atL])) (fun o_7 ho_7 => ?_)
  refine zw_zb0 (sf_X12_laysError p1 (upd f6 p1.toNatClampNeg (f1 p1.toNatClampNeg)) f14 f7 f8 f9 f15 f11 f12 o_7.1 o_7.2 (by grind [zu_at, zu_atL]) (by grind [zu_at, zu_atL]) (by grind [zu_at, zu_atL]) (by grind [zu_at, zu_atL]) (by grind [zu_at, zu_atL])) (fun o_11 ho_11 => ?_)
  refine zw_if (fun c2 => ?_) (fun c2 => ?_)
  · refine zw_if (fun c3 => ?_) (fun c3 => ?_)
    · refine zw_if (fun c4 => ?_) (fun c4 => ?_)
      · refine zw_some ?_
        first | trivial | (try dsimp only); grind [zu_at, zu_atL]
      refine zw_if (fun c5 => ?_) (fun c5 => ?_)
      · refine zw_zb0 (sf_X12_mostOf p1 (vp_updL o_7.1 p1.toNatClampNeg (f16 p1.toNatClampNeg)) (vp_updL o_7.2 p1.toNatClampNeg (f17 p1.toNatClampNeg)) (by grind [zu_at, zu_atL])) (fun o_19 ho_19 => ?_)
        refine zw_zn (fun x_23 ex_23 => ?_)
        refine zw_zg32 8 (by decide) (by grind [zu_at, zu_atL]) ?_
        refine zw_zn (fun x_25 ex_25 => ?_)
        refine zw_if (fun c6 => ?_) (fun c6 => ?_)
        · refine zw_zg32 28 (by decide) (by grind [zu_at, zu_atL]) ?_
          refine zw_if (fun c7 => ?_) (fun c7 => ?_)
          · refine zw_some ?_
            first | trivial | (try dsimp only); grind [zu_at, zu_atL]
          refine zw_zn (fun x_29 ex_29 => ?_)
          refine zw_if (fun c8 => ?_) (fun c8 => ?_)
          · refine zw_some ?_
            first | trivial | (try dsimp only); grind [zu_at, zu_atL]
          refine zw_some ?_
          first | trivial | (try dsimp only); grind [zu_at, zu_atL]
        refine zw_some ?_
        first | trivial | (try dsimp only); grind [zu_at, zu_atL]
      refine zw_some ?_
      first | trivial | (try dsimp only); grind [zu_at, zu_atL]
    refine zw_some ?_
    first | trivial | (try dsimp only); grind [zu_at, zu_atL]
  refine zw_some ?_
  first | trivial | (try dsimp only); grind [zu_at, zu_atL]
set_option maxHeartbeats 1000000 in
theorem sf_X12_check (v0_1 : Int32) (v0_33 : Int32) (w0_34 : Int64) (f1 : Nat → Int32) (f2 : Nat → Int32) (f3 : Nat → Int32) (f4 : Nat → Int32) (f5 : Nat → Int64) (f6 : Nat → Int64) (f7 : Nat → Int64) (f8 : Nat → Int32) (f9 : Nat → Int32) (f10 : Nat → Int32) (f11 : Nat → Int32) (f12 : Nat → Int32) (f13 : Nat → Int32) (f14 : Nat → Int32) (f15 : Nat → Int64) (f16 : Nat → Int64) (f17 : Nat → Int64) (f18 : Nat → Int64) (f19 : Nat → Int32) (f20 : Nat → Int64) (f21 : Nat → Int32) (f22 : Nat → Int32) (h_v0_1 : 0 ≤ v0_1 ∧ v0_1 ≤ 1200) (h_f1 : (∀ i : Nat, 0 ≤ f1 i ∧ f1 i ≤ 14)) (h_f3 : (∀ i : Nat, 0 ≤ f3 i ∧ f3 i ≤ 255)) (h_f8 : (∀ i : Nat, 0 ≤ f8 i ∧ f8 i ≤ 4)) (h_f9 : (∀ i : Nat, 0 ≤ f9 i ∧ f9 i ≤ 13)) (h_f10 : (∀ i : Nat, (-1) ≤ f10 i ∧ f10 i ≤ 3)) (h_f11 : (∀ i : Nat, 0 ≤ f11 i ∧ f11 i ≤ 3)) (h_f13 : (∀ i : Nat, (-1) ≤ f13 i ∧ f13 i ≤ 13)) (h_f14 : (∀ i : Nat, (-1) ≤ f14 i ∧ f14 i ≤ 13)) (hx_0 : f1 (0 : Int32).toNatClampNeg ≤ 0 ∨ 1 ≤ f8 (0 : Int32).toNatClampNeg ∧ (∀ x : Int32, 0 ≤ x → x < f8 (0 : Int32).toNatClampNeg → 1 ≤ f19 x.toNatClampNeg) ∧ (∀ i : Nat, 1 ≤ f19 (f11 i).toNatClampNeg)) : zw (fn_X12_check v0_1 v0_33 w0_34 f1 f2 f3 f4 f5 f6 f7 f8 f9 f10 f11 f12 f13 f14 f15 f16 f17 f18 f19 f20 f21 f22) (fun r => 0 ≤ r.1 ∧ r.1 ≤ 1 ∧ 0 ≤ r.2.1 ∧ r.2.1 ≤ 1200 ∧ (∀ i : Nat, 0 ≤ r.2.2.2.2.2.2.2.2.2.2.1 i ∧ r.2.2.2.2.2.2.2.2.2.2.1 i ≤ 3) ∧ (f1 (0 : Int32).toNatClampNeg) ≤ r.2.1 + 14 ∧ (-2) ≤ r.2.2.2.1 ∧ r.1 ≤ (f1 (0 : Int32).toNatClampNeg) ∧ r.1 ≤ r.2.2.2.2.1 + 1 ∧ r.2.1 ≤ 0 ∧ r.2.1 ≤ r.1 ∧ r.2.1 ≤ r.2.2.2.1 + 2 ∧ r.2.2.2.1 < (f1 (0 : Int32).toNatClampNeg) ∧ r.2.2.2.1 ≤ r.2.2.2.2.1 + 12 ∧ r.2.2.2.1 < v0_1 ∧ r.2.2.2.2.1 ≤ 6 ∧ r.2.2.2.2.1 ≤ r.2.1 + 6 ∧ r.2.2.2.2.1 ≤ r.2.2.2.1 + 6 ∧ r.2.2.2.2.1 < v0_1 ∧ (r.1 = 0 → (-1) ≤ r.2.2.2.1 ∧ r.1 ≤ r.2.1 ∧ r.1 ≤ r.2.2.2.1 + 1 ∧ r.2.1 ≤ r.2.2.2.1 + 1) ∧ (¬ r.1 = 0 → (25 * (f1 (0 : Int32).toNatClampNeg)) ≤ 350 ∧ (25 * (f1 (0 : Int32).toNatClampNeg)) ≤ v0_1 ∧ (f1 (0 : Int32).toNatClampNeg) ≤ r.1 + 13 ∧ (f1 (0 : Int32).toNatClampNeg) ≤ r.2.2.1 + 15 ∧ (f1 (0 : Int32).toNatClampNeg) ≤ r.2.2.2.2.1 + 14 ∧ 25 ≤ (25 * (f1 (0 : Int32).toNatClampNeg)) ∧ 1 ≤ (f1 (0 : Int32).toNatClampNeg) ∧ 1 ≤ r.1 ∧ (-1) ≤ r.2.2.1 ∧ 0 ≤ r.2.2.2.2.1 ∧ 25 ≤ v0_1 ∧ r.1 ≤ r.2.2.1 + 2 ∧ r.2.1 < (f1 (0 : Int32).toNatClampNeg) ∧ r.2.1 < r.1 ∧ r.2.1 ≤ r.2.2.1 + 1 ∧ r.2.1 ≤ r.2.2.2.2.1 ∧ r.2.2.1 + 2 ≤ (f1 (0 : Int32).toNatClampNeg) ∧ r.2.2.1 ≤ (-1) ∧ r.2.2.1 + 2 ≤ r.1 ∧ r.2.2.1 < r.2.1 ∧ r.2.2.1 ≤ r.2.2.2.1 + 1 ∧ r.2.2.1 < r.2.2.2.2.1 ∧ r.2.2.2.1 + 3 ≤ (f1 (0 : Int32).toNatClampNeg) ∧ r.2.2.2.1 ≤ (-2) ∧ r.2.2.2.1 + 3 ≤ r.1 ∧ r.2.2.2.1 + 2 ≤ r.2.1 ∧ r.2.2.2.1 < r.2.2.1 ∧ r.2.2.2.1 + 2 ≤ r.2.2.2.2.1 ∧ r.2.2.2.2.1 < (f1 (0 : Int32).toNatClampNeg) ∧ r.2.2.2.2.1 ≤ 0 ∧ r.2.2.2.2.1 < r.1 ∧ r.2.2.2.2.1 ≤ r.2.1 ∧ r.2.2.2.2.1 ≤ r.2.2.1 + 1 ∧ r.2.2.2.2.1 ≤ r.2.2.2.1 + 2 ∧ v0_1 ≤ (25 * (f1 (0 : Int32).toNatClampNeg)) ∧ v0_1 ≤ 350) ∧ (r.1 = 1 → (25 * (f1 (0 : Int32).toNatClampNeg)) ≤ 350 ∧ (25 * (f1 (0 : Int32).toNatClampNeg)) ≤ v0_1 ∧ (f1 (0 : Int32).toNatClampNeg) ≤ r.1 + 13 ∧ (f1 (0 : Int32).toNatClampNeg) ≤ r.2.2.1 + 15 ∧ (f1 (0 : Int32).toNatClampNeg) ≤ r.2.2.2.2.1 + 14 ∧ 25 ≤ (25 * (f1 (0 : Int32).toNatClampNeg)) ∧ 1 ≤ (f1 (0 : Int32).toNatClampNeg) ∧ (-1) ≤ r.2.2.1 ∧ 0 ≤ r.2.2.2.2.1 ∧ 25 ≤ v0_1 ∧ r.1 ≤ r.2.2.1 + 2 ∧ r.2.1 < (f1 (0 : Int32).toNatClampNeg) ∧ r.2.1 < r.1 ∧ r.2.1 ≤ r.2.2.1 + 1 ∧ r.2.1 ≤ r.2.2.2.2.1 ∧ r.2.2.1 + 2 ≤ (f1 (0 : Int32).toNatClampNeg) ∧ r.2.2.1 ≤ (-1) ∧ r.2.2.1 + 2 ≤ r.1 ∧ r.2.2.1 < r.2.1 ∧ r.2.2.1 ≤ r.2.2.2.1 + 1 ∧ r.2.2.1 < r.2.2.2.2.1 ∧ r.2.2.2.1 + 3 ≤ (f1 (0 : Int32).toNatClampNeg) ∧ r.2.2.2.1 ≤ (-2) ∧ r.2.2.2.1 + 3 ≤ r.1 ∧ r.2.2.2.1 + 2 ≤ r.2.1 ∧ r.2.2.2.1 < r.2.2.1 ∧ r.2.2.2.1 + 2 ≤ r.2.2.2.2.1 ∧ r.2.2.2.2.1 < (f1 (0 : Int32).toNatClampNeg) ∧ r.2.2.2.2.1 ≤ 0 ∧ r.2.2.2.2.1 < r.1 ∧ r.2.2.2.2.1 ≤ r.2.1 ∧ r.2.2.2.2.1 ≤ r.2.2.1 + 1 ∧ r.2.2.2.2.1 ≤ r.2.2.2.1 + 2 ∧ v0_1 ≤ (25 * (f1 (0 : Int32).toNatClampNeg)) ∧ v0_1 ≤ 350) ∧ (¬ r.1 = 1 → (-1) ≤ r.2.2.2.1 ∧ r.1 ≤ 0 ∧ r.1 ≤ r.2.1 ∧ r.1 ≤ r.2.2.2.1 + 1 ∧ r.2.1 ≤ r.2.2.2.1 + 1) ∧ (∀ i : Nat, r.2.2.2.2.2.2.2.2.2.2.1 i = f11 i ∨ 0 ≤ r.2.2.2.2.2.2.2.2.2.2.1 i ∧ r.2.2.2.2.2.2.2.2.2.2.1 i < f8 (0 : Int32).toNatClampNeg)) := by
  unfold fn_X12_check
  refine zw_if (fun c1 => ?_) (fun c1 => ?_)
  · refine zw_zb0 (sf_X12_isRefused 3 f2 (by grind [zu_at, zu_atL])) (fun o_2 ho_2 => ?_)
    refine zw_some ?_
    first | trivial | (try dsimp only); grind [zu_at, zu_atL]
  refine zw_if (fun c2 => ?_) (fun c2 => ?_)
  · refine zw_zl32 (fun s_7 => 0 ≤ s_7.1 ∧ s_7.1 ≤ (f1 (0 : Int32).toNatClampNeg)) (fun s_7 => 14 - s_7.1) (by (try dsimp only); grind [zu_at, zu_atL]) (by (try dsimp only); grind [zu_at, zu_atL]) (fun s_7 back_7 Hback_7 hback_7 => ?_)
    refine zw_if (fun c3 => ?_) (fun c3 => ?_)
    · refine zw_zl32 (fun s_9 => (∀ i : Nat, 0 ≤ s_9.2.2.2.1 i ∧ s_9.2.2.2.1 i ≤ 3) ∧ 0 ≤ s_9.1 ∧ s_9.1 ≤ (f1 (0 : Int32).toNatClampNeg) ∧ s_9.1 ≤ s_7.1 ∧ (∀ i : Nat, s_9.2.2.2.1 i = f11 i ∨ 0 ≤ s_9.2.2.2.1 i ∧ s_9.2.2.2.1 i < f8 (0 : Int32).toNatClampNeg)) (fun s_9 => 14 - s_9.1) (by (try dsimp only); grind [zu_at, zu_atL]) (by (try dsimp only); grind [zu_at, zu_atL]) (fun s_9 back_9 Hback_9 hback_9 => ?_)
      refine zw_if (fun c4 => ?_) (fun c4 => ?_)
      · refine zw_some ?_
        first | trivial | (try dsimp only); grind [zu_at, zu_atL]
      refine zw_zb0 (sf_X12_breaks s_9.1 (-1) w0_34 s_7.2.1 f8 f1 f9 f10 s_9.2.2.2.1 f12 f13 f14 s_9.2.1 f16 f17 s_9.2.2.1 f19 s_9.2.2.2.2 s_7.2.2.1 s_7.2.2.2.1 s_7.2.2.2.2 f21 f22 (by grind [zu_at, zu_atL]) (by grind [zu_at, zu_atL]) (by grind [zu_at, zu_atL]) (by grind [zu_at, zu_atL]) (by grind [zu_at, zu_atL]) (by grind [zu_at, zu_atL]) (by grind [zu_at, zu_atL]) (by grind [zu_at, zu_atL]) (by grind [zu_at, zu_atL]) (by grind [zu_at, zu_atL]) (by grind [zu_at, zu_atL])) (fun o_11 ho_11 => ?_)
      refine zw_if (fun c5 => ?_) (fun c5 => ?_)
      · exact hback_9 _ (by grind [zu_at, zu_atL]) (by grind [zu_at, zu_atL]) (by grind [zu_at, zu_atL])
      refine zw_zb0 (sf_X12_isRefused 3 f2 (by grind [zu_at, zu_atL])) (fun o_16 ho_16 => ?_)
      refine zw_some ?_
      first | trivial | (try dsimp only); grind [zu_at, zu_atL]
    refine zw_zg32 1200 (by decide) (by grind [zu_at, zu_atL]) ?_
    refine zw_zg32 14 (by decide) (by grind [zu_at, zu_atL]) ?_
    refine zw_zn (fun g_22 eg_22 => ?_)
    refine zw_zb0 (sf_X12_readsLong ((25 * s_7.1) + 1) f3 (by grind [zu_at, zu_atL]) (by grind [zu_at, zu_atL])) (fun o_23 ho_23 => ?_)
    refine zw_zb0 (sf_X12_readsLong ((25 * s_7.1) + 9) f3 (by grind [zu_at, zu_atL]) (by grind [zu_at, zu_atL])) (fun o_27 ho_27 => ?_)
    refine zw_zb0 (sf_X12_readsLong ((25 * s_7.1) + 17) f3 (by grind [zu_at, zu_atL]) (by grind [zu_at, zu_atL])) (fun o_31 ho_31 => ?_)
    exact hback_7 _ (by grind [zu_at, zu_atL]) (by grind [zu_at, zu_atL]) (by grind [zu_at, zu_atL])
  refine zw_zb0 (sf_X12_isRefused 3 f2 (by grind [zu_at, zu_atL])) (fun o_35 ho_35 => ?_)
  refine zw_some ?_
  first | trivial | (try dsimp only); grind [zu_at, zu_atL]
set_option maxHeartbeats 1000000 in
theorem sf_X12_broken (p1 : Int32) (v0_58 : Int32) (v0_59 : Int32) : zw (fn_X12_broken p1 v0_58 v0_59) (fun r => (¬ r = (-1) → 0 ≤ p1 ∧ p1 ≤ 1)) := by
  unfold fn_X12_broken
  refine zw_if (fun c1 => ?_) (fun c1 => ?_)
  · refine zw_some ?_
    first | trivial | (try dsimp only); grind [zu_at, zu_atL]
  refine zw_if (fun c2 => ?_) (fun c2 => ?_)
  · refine zw_some ?_
    first | trivial | (try dsimp only); grind [zu_at, zu_atL]
  refine zw_some ?_
  first | trivial | (try dsimp only); grind [zu_at, zu_atL]
set_option maxHeartbeats 1000000 in
theorem sf_X12_draw (j1 : Int64) (v0_64 : Int32) : zw (fn_X12_draw j1 v0_64) (fun r => True) := by
  unfold fn_X12_draw
  refine zw_zn (fun x_1 ex_1 => ?_)
  refine zw_some ?_
  first | trivial | (try dsimp only); grind [zu_at, zu_atL]
