set_option maxHeartbeats 4000000 in
set_option maxRecDepth 100000 in
theorem sf_X12_readsOp (v0_5 : Int32) (v0_6 : Int32) (v0_7 : Int32) (v0_8 : Int32) (v0_9 : Int32) (f1 : Nat → Int32) (f2 : Nat → Int32) (h_v0_5 : 0 ≤ v0_5 ∧ v0_5 ≤ 1200) (h_v0_6 : 0 ≤ v0_6 ∧ v0_6 ≤ 1200) (h_v0_7 : 0 ≤ v0_7 ∧ v0_7 ≤ 1200) (h_v0_8 : 0 ≤ v0_8 ∧ v0_8 ≤ 4) (h_f1 : (∀ i : Nat, 0 ≤ f1 i ∧ f1 i ≤ 255)) (hx_0 : (∀ k : Nat, k < 71 → f2 k = zTab k)) : zw (fn_X12_readsOp v0_5 v0_6 v0_7 v0_8 v0_9 f1 f2) (fun r => 0 ≤ r.2.1 ∧ r.2.1 ≤ 1200 ∧ 0 ≤ r.2.2.1 ∧ r.2.2.1 ≤ 1200 ∧ 0 ≤ r.2.2.2.1 ∧ r.2.2.2.1 ≤ 4 ∧ 0 ≤ r.1 ∧ r.1 ≤ 5 ∧ v0_6 ≤ r.2.1 ∧ v0_8 ≤ r.2.2.2.1 ∧ (r.1 = 0 → 1 ≤ r.2.2.2.1 ∧ 1 ≤ v0_8 ∧ r.2.1 ≤ v0_6 ∧ r.2.2.1 ≤ v0_7 ∧ r.2.2.2.1 ≤ v0_8 ∧ r.2.2.2.2 ≤ v0_9 ∧ v0_7 ≤ r.2.2.1 ∧ v0_9 ≤ r.2.2.2.2 ∧ r.1 ≤ r.2.1 ∧ r.1 ≤ r.2.2.1 ∧ r.1 < r.2.2.2.1 ∧ r.1 ≤ v0_5) ∧ (¬ r.1 = 0 → 1 ≤ r.1 ∧ v0_8 ≤ 0 ∧ r.2.2.2.1 ≤ r.1) ∧ (r.1 = 4 → v0_8 ≤ 0 ∧ r.2.2.2.1 ≤ r.1 ∧ r.1 ≤ r.2.1 + 4 ∧ r.1 ≤ r.2.2.1 + 4 ∧ r.1 ≤ r.2.2.2.1 + 4 ∧ r.1 ≤ v0_5 + 4 ∧ r.1 ≤ v0_6 + 4 ∧ r.1 ≤ v0_7 + 4 ∧ r.1 ≤ v0_8 + 4 ∧ v0_8 + 4 ≤ r.1) ∧ (r.1 = 5 → v0_8 ≤ 0 ∧ r.2.2.2.1 < r.1 ∧ v0_8 + 5 ≤ r.1) ∧ (¬ r.1 = 5 → r.1 ≤ 4) ∧ (r.1 = 1 → 1 ≤ r.2.1 ∧ r.2.2.2.1 ≤ 0 ∧ 1 ≤ v0_5 ∧ r.2.2.1 ≤ v0_7 ∧ r.2.2.2.2 ≤ v0_9 ∧ v0_7 ≤ r.2.2.1 ∧ v0_9 ≤ r.2.2.2.2 ∧ r.1 ≤ r.2.1 ∧ r.2.2.2.1 < r.1 ∧ r.1 ≤ v0_5 ∧ r.2.1 ≤ v0_5 ∧ v0_6 < r.2.1 ∧ r.1 ≤ r.2.2.1 + 1 ∧ r.1 ≤ r.2.2.2.1 + 1) ∧ (r.1 = 2 → 1 ≤ r.2.1 ∧ r.2.2.2.1 ≤ 0 ∧ 1 ≤ v0_5 ∧ r.2.2.1 ≤ v0_7 ∧ r.2.2.2.2 ≤ v0_9 ∧ v0_7 ≤ r.2.2.1 ∧ v0_9 ≤ r.2.2.2.2 ∧ r.2.1 ≤ v0_5 ∧ v0_6 < r.2.1 ∧ r.1 ≤ r.2.1 + 1 ∧ r.1 ≤ r.2.2.1 + 2 ∧ r.1 ≤ r.2.2.2.1 + 2 ∧ r.2.2.2.1 + 2 ≤ r.1) ∧ (r.1 = 3 → 1 ≤ r.2.1 ∧ r.2.2.2.1 ≤ 0 ∧ 1 ≤ v0_5 ∧ r.2.2.1 ≤ v0_7 ∧ r.2.2.2.2 ≤ v0_9 ∧ v0_7 ≤ r.2.2.1 ∧ v0_9 ≤ r.2.2.2.2 ∧ r.2.1 ≤ v0_5 ∧ v0_6 < r.2.1 ∧ r.1 ≤ r.2.1 + 2 ∧ r.1 ≤ r.2.2.1 + 3 ∧ r.1 ≤ r.2.2.2.1 + 3 ∧ r.2.2.2.1 + 3 ≤ r.1)) := by
  unfold fn_X12_readsOp
  refine zw_zb0 (sf_X12_goesWell v0_8 (by first | with_reducible assumption | exact ⟨by with_reducible assumption, by with_reducible assumption⟩ | first | lia | grind [zu_at, zu_atL, zvn])) (fun o_1 ho_1 => ?_)
  obtain ⟨ho_1_0, ho_1_1, ho_1_2, ho_1_3, ho_1_4, ho_1_5⟩ := ho_1
  refine zw_if (fun c1 => ?_) (fun c1 => ?_)
  · refine zw_some ?_
    first | exact True.intro | ((try dsimp only); (repeat' apply And.intro) <;> first | with_reducible assumption | first | lia | grind [zu_at, zu_atL, zvn])
  refine zw_zb0 (sf_X12_here v0_5 v0_6 f1 (by first | with_reducible assumption | exact ⟨by with_reducible assumption, by with_reducible assumption⟩ | first | lia | grind [zu_at, zu_atL, zvn]) (by first | with_reducible assumption | exact ⟨by with_reducible assumption, by with_reducible assumption⟩ | first | lia | grind [zu_at, zu_atL, zvn]) (by first | with_reducible assumption | exact ⟨by with_reducible assumption, by with_reducible assumption⟩ | first | lia | grind [zu_at, zu_atL, zvn])) (fun o_6 ho_6 => ?_)
  obtain ⟨o_6_0, o_6_1⟩ := o_6
  try dsimp only at ho_6
  obtain ⟨ho_6_0, ho_6_1, ho_6_2, ho_6_3, ho_6_4, ho_6_5, ho_6_6⟩ := ho_6
  refine zw_zj (fun _ => 1 ≤ v0_5 ∧ v0_6 ≤ 1199 ∧ 42 ≤ o_6_0 ∧ o_6_0 ≤ 45 ∧ o_6_1 ≤ 1199 ∧ v0_6 < v0_5 ∧ o_6_1 < v0_5) (fun s_10 Hj_10 => ?_) (fun j_10 hj_10 => ?_)
  · obtain ⟨Hj_10_0, Hj_10_1, Hj_10_2, Hj_10_3, Hj_10_4, Hj_10_5, Hj_10_6⟩ := Hj_10
    refine zw_if (fun c2 => ?_) (fun c2 => ?_)
    · refine zw_some ?_
      first | exact True.intro | ((try dsimp only); (repeat' apply And.intro) <;> first | with_reducible assumption | first | lia | grind [zu_at, zu_atL, zvn])
    refine zw_if (fun c3 => ?_) (fun c3 => ?_)
    · refine zw_some ?_
      first | exact True.intro | ((try dsimp only); (repeat' apply And.intro) <;> first | with_reducible assumption | first | lia | grind [zu_at, zu_atL, zvn])
    refine zw_some ?_
    first | exact True.intro | ((try dsimp only); (repeat' apply And.intro) <;> first | with_reducible assumption | first | lia | grind [zu_at, zu_atL, zvn])
  refine zw_if (fun c4 => ?_) (fun c4 => ?_)
  · exact hj_10 _ (by first | exact True.intro | ((try dsimp only); (repeat' apply And.intro) <;> first | with_reducible assumption | first | lia | grind [zu_at, zu_atL, zvn]))
  refine zw_if (fun c5 => ?_) (fun c5 => ?_)
  · exact hj_10 _ (by first | exact True.intro | ((try dsimp only); (repeat' apply And.intro) <;> first | with_reducible assumption | first | lia | grind [zu_at, zu_atL, zvn]))
  refine zw_if (fun c6 => ?_) (fun c6 => ?_)
  · exact hj_10 _ (by first | exact True.intro | ((try dsimp only); (repeat' apply And.intro) <;> first | with_reducible assumption | first | lia | grind [zu_at, zu_atL, zvn]))
  refine zw_zb0 (sf_X12_word v0_5 o_6_1 v0_7 v0_8 v0_9 f1 (by first | with_reducible assumption | exact ⟨by with_reducible assumption, by with_reducible assumption⟩ | first | lia | grind [zu_at, zu_atL, zvn]) (by first | with_reducible assumption | exact ⟨by with_reducible assumption, by with_reducible assumption⟩ | first | lia | grind [zu_at, zu_atL, zvn]) (by first | with_reducible assumption | exact ⟨by with_reducible assumption, by with_reducible assumption⟩ | first | lia | grind [zu_at, zu_atL, zvn]) (by first | with_reducible assumption | exact ⟨by with_reducible assumption, by with_reducible assumption⟩ | first | lia | grind [zu_at, zu_atL, zvn]) (by first | with_reducible assumption | exact ⟨by with_reducible assumption, by with_reducible assumption⟩ | first | lia | grind [zu_at, zu_atL, zvn])) (fun o_16 ho_16 => ?_)
  obtain ⟨o_16_0, o_16_1, o_16_2, o_16_3⟩ := o_16
  try dsimp only at ho_16
  obtain ⟨ho_16_0, ho_16_1, ho_16_2, ho_16_3, ho_16_4, ho_16_5, ho_16_6, ho_16_7⟩ := ho_16
  refine zw_zb0 (sf_X12_goesWell o_16_2 (by first | with_reducible assumption | exact ⟨by with_reducible assumption, by with_reducible assumption⟩ | first | lia | grind [zu_at, zu_atL, zvn])) (fun o_20 ho_20 => ?_)
  obtain ⟨ho_20_0, ho_20_1, ho_20_2, ho_20_3, ho_20_4, ho_20_5⟩ := ho_20
  refine zw_zj (fun s_24 => (-1) ≤ s_24 ∧ s_24 ≤ 12) (fun s_24 Hj_24 => ?_) (fun j_24 hj_24 => ?_)
  · obtain ⟨Hj_24_0, Hj_24_1⟩ := Hj_24
    refine zw_zb0 (sf_X12_goesWell o_16_2 (by first | with_reducible assumption | exact ⟨by with_reducible assumption, by with_reducible assumption⟩ | first | lia | grind [zu_at, zu_atL, zvn])) (fun o_25 ho_25 => ?_)
    obtain ⟨ho_25_0, ho_25_1, ho_25_2, ho_25_3, ho_25_4, ho_25_5⟩ := ho_25
    refine zw_if (fun c7 => ?_) (fun c7 => ?_)
    · refine zw_if (fun c8 => ?_) (fun c8 => ?_)
      · refine zw_some ?_
        first | exact True.intro | ((try dsimp only); (repeat' apply And.intro) <;> first | with_reducible assumption | first | lia | grind [zu_at, zu_atL, zvn])
      refine zw_some ?_
      first | exact True.intro | ((try dsimp only); (repeat' apply And.intro) <;> first | with_reducible assumption | first | lia | grind [zu_at, zu_atL, zvn])
    refine zw_if (fun c9 => ?_) (fun c9 => ?_)
    · refine zw_if (fun c10 => ?_) (fun c10 => ?_)
      · refine zw_some ?_
        first | exact True.intro | ((try dsimp only); (repeat' apply And.intro) <;> first | with_reducible assumption | first | lia | grind [zu_at, zu_atL, zvn])
      refine zw_some ?_
      first | exact True.intro | ((try dsimp only); (repeat' apply And.intro) <;> first | with_reducible assumption | first | lia | grind [zu_at, zu_atL, zvn])
    refine zw_if (fun c11 => ?_) (fun c11 => ?_)
    · refine zw_if (fun c12 => ?_) (fun c12 => ?_)
      · refine zw_some ?_
        first | exact True.intro | ((try dsimp only); (repeat' apply And.intro) <;> first | with_reducible assumption | first | lia | grind [zu_at, zu_atL, zvn])
      refine zw_some ?_
      first | exact True.intro | ((try dsimp only); (repeat' apply And.intro) <;> first | with_reducible assumption | first | lia | grind [zu_at, zu_atL, zvn])
    refine zw_zb0 (sf_X12_faults 1 o_16_1 o_16_2 o_16_3 (by first | with_reducible assumption | exact ⟨by with_reducible assumption, by with_reducible assumption⟩ | first | lia | grind [zu_at, zu_atL, zvn]) (by first | with_reducible assumption | exact ⟨by with_reducible assumption, by with_reducible assumption⟩ | first | lia | grind [zu_at, zu_atL, zvn])) (fun o_35 ho_35 => ?_)
    obtain ⟨o_35_0, o_35_1⟩ := o_35
    try dsimp only at ho_35
    obtain ⟨ho_35_0, ho_35_1, ho_35_2, ho_35_3⟩ := ho_35
    refine zw_if (fun c13 => ?_) (fun c13 => ?_)
    · refine zw_some ?_
      first | exact True.intro | ((try dsimp only); (repeat' apply And.intro) <;> first | with_reducible assumption | first | lia | grind [zu_at, zu_atL, zvn])
    refine zw_some ?_
    first | exact True.intro | ((try dsimp only); (repeat' apply And.intro) <;> first | with_reducible assumption | first | lia | grind [zu_at, zu_atL, zvn])
  refine zw_if (fun c14 => ?_) (fun c14 => ?_)
  · exact hj_24 _ (by first | exact True.intro | ((try dsimp only); (repeat' apply And.intro) <;> first | with_reducible assumption | first | lia | grind [zu_at, zu_atL, zvn]))
  refine zw_zb0 (sf_X12_own o_16_0 o_16_1 f2 f1 (by first | with_reducible assumption | exact ⟨by with_reducible assumption, by with_reducible assumption⟩ | first | lia | grind [zu_at, zu_atL, zvn]) (by first | with_reducible assumption | exact ⟨by with_reducible assumption, by with_reducible assumption⟩ | first | lia | grind [zu_at, zu_atL, zvn]) (by first | with_reducible assumption | exact ⟨by with_reducible assumption, by with_reducible assumption⟩ | first | lia | grind [zu_at, zu_atL, zvn]) (by first | with_reducible assumption | exact ⟨by with_reducible assumption, by with_reducible assumption⟩ | first | lia | grind [zu_at, zu_atL, zvn])) (fun o_41 ho_41 => ?_)
  obtain ⟨ho_41_0, ho_41_1⟩ := ho_41
  exact hj_24 _ (by first | exact True.intro | ((try dsimp only); (repeat' apply And.intro) <;> first | with_reducible assumption | first | lia | grind [zu_at, zu_atL, zvn]))
set_option maxHeartbeats 4000000 in
set_option maxRecDepth 100000 in
theorem sf_X12_readsLet (v0_5 : Int32) (v0_6 : Int32) (v0_7 : Int32) (v0_8 : Int32) (v0_9 : Int32) (v0_11 : Int32) (f1 : Nat → Int32) (f2 : Nat → Int32) (f3 : Nat → Int32) (f4 : Nat → Int32) (f5 : Nat → Int32) (f6 : Nat → Int32) (f7 : Nat → Int32) (f8 : Nat → Int32) (f9 : Nat → Int32) (f10 : Nat → Int32) (f11 : Nat → Int32) (f12 : Nat → Int32) (f13 : Nat → Int64) (f14 : Nat → Int64) (h_v0_5 : 0 ≤ v0_5 ∧ v0_5 ≤ 1200) (h_v0_6 : 0 ≤ v0_6 ∧ v0_6 ≤ 1200) (h_v0_7 : 0 ≤ v0_7 ∧ v0_7 ≤ 1200) (h_v0_8 : 0 ≤ v0_8 ∧ v0_8 ≤ 4) (h_v0_11 : 1 ≤ v0_11 ∧ v0_11 ≤ 1) (h_f1 : (∀ i : Nat, 0 ≤ f1 i ∧ f1 i ≤ 255)) (h_f3 : (∀ i : Nat, 0 ≤ f3 i ∧ f3 i ≤ 4)) (h_f5 : (∀ i : Nat, 0 ≤ f5 i ∧ f5 i ≤ 14)) (h_f8 : (∀ i : Nat, (-1) ≤ f8 i ∧ f8 i ≤ 13)) (h_f9 : (∀ i : Nat, (-1) ≤ f9 i ∧ f9 i ≤ 13)) (h_f10 : (∀ i : Nat, (-1) ≤ f10 i ∧ f10 i ≤ 3)) (h_f12 : (∀ i : Nat, 0 ≤ f12 i ∧ f12 i ≤ 13)) (hr_0 : (f5 v0_11.toNatClampNeg) ≤ 13) (hx_0 : (∀ k : Nat, k < 71 → f2 k = zTab k)) : zw (fn_X12_readsLet v0_5 v0_6 v0_7 v0_8 v0_9 v0_11 f1 f2 f3 f4 f5 f6 f7 f8 f9 f10 f11 f12 f13 f14) (fun r => 0 ≤ r.2.1 ∧ r.2.1 ≤ 1200 ∧ 0 ≤ r.2.2.1 ∧ r.2.2.1 ≤ 1200 ∧ 0 ≤ r.2.2.2.1 ∧ r.2.2.2.1 ≤ 4 ∧ (∀ i : Nat, 0 ≤ r.2.2.2.2.2.1 i ∧ r.2.2.2.2.2.1 i ≤ 14) ∧ (∀ i : Nat, (-1) ≤ r.2.2.2.2.2.2.2.2.1 i ∧ r.2.2.2.2.2.2.2.2.1 i ≤ 13) ∧ (∀ i : Nat, (-1) ≤ r.2.2.2.2.2.2.2.2.2.1 i ∧ r.2.2.2.2.2.2.2.2.2.1 i ≤ 13) ∧ (∀ i : Nat, (-1) ≤ r.2.2.2.2.2.2.2.2.2.2.1 i ∧ r.2.2.2.2.2.2.2.2.2.2.1 i ≤ 3) ∧ (∀ i : Nat, 0 ≤ r.2.2.2.2.2.2.2.2.2.2.2.2.1 i ∧ r.2.2.2.2.2.2.2.2.2.2.2.2.1 i ≤ 13) ∧ v0_6 ≤ r.2.1 ∧ v0_8 ≤ r.2.2.2.1 ∧ (∀ i : Nat, r.2.2.2.2.2.2.2.2.2.2.1 i = f10 i ∨ r.2.2.2.2.2.2.2.2.2.2.1 i = (-1)) ∧ (∀ k : Int32, 0 ≤ k → k < r.2.2.2.2.2.1 v0_11.toNatClampNeg → k < f5 v0_11.toNatClampNeg ∨ r.2.2.2.2.2.2.2.2.2.2.1 (14 + k).toNatClampNeg = (-1)) ∧ r.2.2.2.2.2.1 (0 : Int32).toNatClampNeg = f5 (0 : Int32).toNatClampNeg) := by
  unfold fn_X12_readsLet
  refine zw_zb0 (sf_X12_newName v0_5 v0_6 v0_7 v0_8 v0_9 v0_11 f1 f2 f3 f4 f5 f6 (by first | with_reducible assumption | exact ⟨by with_reducible assumption, by with_reducible assumption⟩ | first | lia | grind [zu_at, zu_atL, zvn, zinj, zn01]) (by first | with_reducible assumption | exact ⟨by with_reducible assumption, by with_reducible assumption⟩ | first | lia | grind [zu_at, zu_atL, zvn, zinj, zn01]) (by first | with_reducible assumption | exact ⟨by with_reducible assumption, by with_reducible assumption⟩ | first | lia | grind [zu_at, zu_atL, zvn, zinj, zn01]) (by first | with_reducible assumption | exact ⟨by with_reducible assumption, by with_reducible assumption⟩ | first | lia | grind [zu_at, zu_atL, zvn, zinj, zn01]) (by first | with_reducible assumption | exact ⟨by with_reducible assumption, by with_reducible assumption⟩ | first | lia | grind [zu_at, zu_atL, zvn, zinj, zn01]) (by first | with_reducible assumption | exact ⟨by with_reducible assumption, by with_reducible assumption⟩ | first | lia | grind [zu_at, zu_atL, zvn, zinj, zn01]) (by first | with_reducible assumption | exact ⟨by with_reducible assumption, by with_reducible assumption⟩ | first | lia | grind [zu_at, zu_atL, zvn, zinj, zn01]) (by first | with_reducible assumption | exact ⟨by with_reducible assumption, by with_reducible assumption⟩ | first | lia | grind [zu_at, zu_atL, zvn, zinj, zn01]) (by first | with_reducible assumption | exact ⟨by with_reducible assumption, by with_reducible assumption⟩ | first | lia | grind [zu_at, zu_atL, zvn, zinj, zn01])) (fun o_1 ho_1 => ?_)
  obtain ⟨o_1_0, o_1_1, o_1_2, o_1_3, o_1_4⟩ := o_1
  try dsimp only at ho_1
  obtain ⟨ho_1_0, ho_1_1, ho_1_2, ho_1_3, ho_1_4, ho_1_5, ho_1_6, ho_1_7, ho_1_8⟩ := ho_1
  refine zw_zb0 (sf_X12_mark 61 v0_5 o_1_1 o_1_3 o_1_4 f1 (by first | with_reducible assumption | exact ⟨by with_reducible assumption, by with_reducible assumption⟩ | first | lia | grind [zu_at, zu_atL, zvn, zinj, zn01]) (by first | with_reducible assumption | exact ⟨by with_reducible assumption, by with_reducible assumption⟩ | first | lia | grind [zu_at, zu_atL, zvn, zinj, zn01]) (by first | with_reducible assumption | exact ⟨by with_reducible assumption, by with_reducible assumption⟩ | first | lia | grind [zu_at, zu_atL, zvn, zinj, zn01]) (by first | with_reducible assumption | exact ⟨by with_reducible assumption, by with_reducible assumption⟩ | first | lia | grind [zu_at, zu_atL, zvn, zinj, zn01]) (by first | with_reducible assumption | exact ⟨by with_reducible assumption, by with_reducible assumption⟩ | first | lia | grind [zu_at, zu_atL, zvn, zinj, zn01])) (fun o_5 ho_5 => ?_)
  obtain ⟨o_5_0, o_5_1, o_5_2⟩ := o_5
  try dsimp only at ho_5
  obtain ⟨ho_5_0, ho_5_1, ho_5_2, ho_5_3, ho_5_4, ho_5_5⟩ := ho_5
  refine zw_zb0 (sf_X12_readsWhat v0_5 o_5_0 o_1_2 o_5_1 o_5_2 v0_11 f1 f2 f5 f6 (by first | with_reducible assumption | exact ⟨by with_reducible assumption, by with_reducible assumption⟩ | first | lia | grind [zu_at, zu_atL, zvn, zinj, zn01]) (by first | with_reducible assumption | exact ⟨by with_reducible assumption, by with_reducible assumption⟩ | first | lia | grind [zu_at, zu_atL, zvn, zinj, zn01]) (by first | with_reducible assumption | exact ⟨by with_reducible assumption, by with_reducible assumption⟩ | first | lia | grind [zu_at, zu_atL, zvn, zinj, zn01]) (by first | with_reducible assumption | exact ⟨by with_reducible assumption, by with_reducible assumption⟩ | first | lia | grind [zu_at, zu_atL, zvn, zinj, zn01]) (by first | with_reducible assumption | exact ⟨by with_reducible assumption, by with_reducible assumption⟩ | first | lia | grind [zu_at, zu_atL, zvn, zinj, zn01]) (by first | with_reducible assumption | exact ⟨by with_reducible assumption, by with_reducible assumption⟩ | first | lia | grind [zu_at, zu_atL, zvn, zinj, zn01]) (by first | with_reducible assumption | exact ⟨by with_reducible assumption, by with_reducible assumption⟩ | first | lia | grind [zu_at, zu_atL, zvn, zinj, zn01]) (by first | with_reducible assumption | exact ⟨by with_reducible assumption, by with_reducible assumption⟩ | first | lia | grind [zu_at, zu_atL, zvn, zinj, zn01])) (fun o_9 ho_9 => ?_)
  obtain ⟨o_9_0, o_9_1, o_9_2, o_9_3, o_9_4, o_9_5⟩ := o_9
  try dsimp only at ho_9
  obtain ⟨ho_9_0, ho_9_1, ho_9_2, ho_9_3, ho_9_4, ho_9_5, ho_9_6, ho_9_7, ho_9_8, ho_9_9, ho_9_10, ho_9_11, ho_9_12, ho_9_13, ho_9_14⟩ := ho_9
  refine zw_zb0 (sf_X12_readsOp v0_5 o_9_2 o_9_3 o_9_4 o_9_5 f1 f2 (by first | with_reducible assumption | exact ⟨by with_reducible assumption, by with_reducible assumption⟩ | first | lia | grind [zu_at, zu_atL, zvn, zinj, zn01]) (by first | with_reducible assumption | exact ⟨by with_reducible assumption, by with_reducible assumption⟩ | first | lia | grind [zu_at, zu_atL, zvn, zinj, zn01]) (by first | with_reducible assumption | exact ⟨by with_reducible assumption, by with_reducible assumption⟩ | first | lia | grind [zu_at, zu_atL, zvn, zinj, zn01]) (by first | with_reducible assumption | exact ⟨by with_reducible assumption, by with_reducible assumption⟩ | first | lia | grind [zu_at, zu_atL, zvn, zinj, zn01]) (by first | with_reducible assumption | exact ⟨by with_reducible assumption, by with_reducible assumption⟩ | first | lia | grind [zu_at, zu_atL, zvn, zinj, zn01]) (by first | with_reducible assumption | exact ⟨by with_reducible assumption, by with_reducible assumption⟩ | first | lia | grind [zu_at, zu_atL, zvn, zinj, zn01])) (fun o_13 ho_13 => ?_)
  obtain ⟨o_13_0, o_13_1, o_13_2, o_13_3, o_13_4⟩ := o_13
  try dsimp only at ho_13
  obtain ⟨ho_13_0, ho_13_1, ho_13_2, ho_13_3, ho_13_4, ho_13_5, ho_13_6, ho_13_7, ho_13_8, ho_13_9, ho_13_10, ho_13_11, ho_13_12, ho_13_13, ho_13_14, ho_13_15, ho_13_16, ho_13_17⟩ := ho_13
  refine zw_zb0 (sf_X12_readsWhat v0_5 o_13_1 o_13_2 o_13_3 o_13_4 v0_11 f1 f2 f5 f6 (by first | with_reducible assumption | exact ⟨by with_reducible assumption, by with_reducible assumption⟩ | first | lia | grind [zu_at, zu_atL, zvn, zinj, zn01]) (by first | with_reducible assumption | exact ⟨by with_reducible assumption, by with_reducible assumption⟩ | first | lia | grind [zu_at, zu_atL, zvn, zinj, zn01]) (by first | with_reducible assumption | exact ⟨by with_reducible assumption, by with_reducible assumption⟩ | first | lia | grind [zu_at, zu_atL, zvn, zinj, zn01]) (by first | with_reducible assumption | exact ⟨by with_reducible assumption, by with_reducible assumption⟩ | first | lia | grind [zu_at, zu_atL, zvn, zinj, zn01]) (by first | with_reducible assumption | exact ⟨by with_reducible assumption, by with_reducible assumption⟩ | first | lia | grind [zu_at, zu_atL, zvn, zinj, zn01]) (by first | with_reducible assumption | exact ⟨by with_reducible assumption, by with_reducible assumption⟩ | first | lia | grind [zu_at, zu_atL, zvn, zinj, zn01]) (by first | with_reducible assumption | exact ⟨by with_reducible assumption, by with_reducible assumption⟩ | first | lia | grind [zu_at, zu_atL, zvn, zinj, zn01]) (by first | with_reducible assumption | exact ⟨by with_reducible assumption, by with_reducible assumption⟩ | first | lia | grind [zu_at, zu_atL, zvn, zinj, zn01])) (fun o_17 ho_17 => ?_)
  obtain ⟨o_17_0, o_17_1, o_17_2, o_17_3, o_17_4, o_17_5⟩ := o_17
  try dsimp only at ho_17
  obtain ⟨ho_17_0, ho_17_1, ho_17_2, ho_17_3, ho_17_4, ho_17_5, ho_17_6, ho_17_7, ho_17_8, ho_17_9, ho_17_10, ho_17_11, ho_17_12, ho_17_13, ho_17_14⟩ := ho_17
  refine zw_zb0 (sf_X12_goesWell o_17_4 (by first | with_reducible assumption | exact ⟨by with_reducible assumption, by with_reducible assumption⟩ | first | lia | grind [zu_at, zu_atL, zvn, zinj, zn01])) (fun o_21 ho_21 => ?_)
  obtain ⟨ho_21_0, ho_21_1, ho_21_2, ho_21_3, ho_21_4, ho_21_5⟩ := ho_21
  refine zw_if (fun c1 => ?_) (fun c1 => ?_)
  · refine zw_some ?_
    first | exact True.intro | ((try dsimp only); (repeat' apply And.intro) <;> first | with_reducible assumption | first | lia | grind [zu_at, zu_atL, zvn, zinj, zn01])
  refine zw_zb0 (sf_X12_newNumber o_1_0 o_13_0 v0_11 f5 f6 f7 f8 f9 f10 f11 f12 (by first | with_reducible assumption | exact ⟨by with_reducible assumption, by with_reducible assumption⟩ | first | lia | grind [zu_at, zu_atL, zvn, zinj, zn01]) (by first | with_reducible assumption | exact ⟨by with_reducible assumption, by with_reducible assumption⟩ | first | lia | grind [zu_at, zu_atL, zvn, zinj, zn01]) (by first | with_reducible assumption | exact ⟨by with_reducible assumption, by with_reducible assumption⟩ | first | lia | grind [zu_at, zu_atL, zvn, zinj, zn01]) (by first | with_reducible assumption | exact ⟨by with_reducible assumption, by with_reducible assumption⟩ | first | lia | grind [zu_at, zu_atL, zvn, zinj, zn01]) (by first | with_reducible assumption | exact ⟨by with_reducible assumption, by with_reducible assumption⟩ | first | lia | grind [zu_at, zu_atL, zvn, zinj, zn01]) (by first | with_reducible assumption | exact ⟨by with_reducible assumption, by with_reducible assumption⟩ | first | lia | grind [zu_at, zu_atL, zvn, zinj, zn01]) (by first | with_reducible assumption | exact ⟨by with_reducible assumption, by with_reducible assumption⟩ | first | lia | grind [zu_at, zu_atL, zvn, zinj, zn01])) (fun o_26 ho_26 => ?_)
  obtain ⟨o_26_0, o_26_1, o_26_2, o_26_3, o_26_4, o_26_5, o_26_6⟩ := o_26
  try dsimp only at ho_26
  obtain ⟨ho_26_0, ho_26_1, ho_26_2, ho_26_3, ho_26_4, ho_26_5⟩ := ho_26
  refine zw_zg32 2 (by decide) (by (try dsimp only); first | lia | grind [zu_at, zu_atL, zvn, zinj, zn01]) ?_
  refine zw_zb0 (sf_X12_n (f5 v0_11.toNatClampNeg) v0_11 (by first | with_reducible assumption | exact ⟨by with_reducible assumption, by with_reducible assumption⟩ | first | lia | grind [zu_at, zu_atL, zvn, zinj, zn01]) (by first | with_reducible assumption | exact ⟨by with_reducible assumption, by with_reducible assumption⟩ | first | lia | grind [zu_at, zu_atL, zvn, zinj, zn01])) (fun o_31 ho_31 => ?_)
  obtain ⟨ho_31_0, ho_31_1, ho_31_2, ho_31_3⟩ := ho_31
  refine zw_zg32 28 (by decide) (by (try dsimp only); first | lia | grind [zu_at, zu_atL, zvn, zinj, zn01]) ?_
  refine zw_some ?_
  first | exact True.intro | ((try dsimp only); (repeat' apply And.intro) <;> first | with_reducible assumption | first | lia | grind [zu_at, zu_atL, zvn, zinj, zn01])
set_option maxHeartbeats 4000000 in
set_option maxRecDepth 100000 in
theorem sf_X12_readsFixed (v0_5 : Int32) (v0_6 : Int32) (v0_7 : Int32) (v0_8 : Int32) (v0_9 : Int32) (v0_11 : Int32) (f1 : Nat → Int32) (f2 : Nat → Int32) (f3 : Nat → Int32) (f4 : Nat → Int32) (f5 : Nat → Int32) (f6 : Nat → Int32) (f7 : Nat → Int32) (h_v0_5 : 0 ≤ v0_5 ∧ v0_5 ≤ 1200) (h_v0_6 : 0 ≤ v0_6 ∧ v0_6 ≤ 1200) (h_v0_7 : 0 ≤ v0_7 ∧ v0_7 ≤ 1200) (h_v0_8 : 0 ≤ v0_8 ∧ v0_8 ≤ 4) (h_v0_11 : 1 ≤ v0_11 ∧ v0_11 ≤ 1) (h_f1 : (∀ i : Nat, 0 ≤ f1 i ∧ f1 i ≤ 255)) (h_f3 : (∀ i : Nat, 0 ≤ f3 i ∧ f3 i ≤ 14)) (h_f5 : (∀ i : Nat, 0 ≤ f5 i ∧ f5 i ≤ 4)) (h_f7 : (∀ i : Nat, (-1) ≤ f7 i ∧ f7 i ≤ 3)) (hx_0 : (∀ k : Nat, k < 71 → f2 k = zTab k)) : zw (fn_X12_readsFixed v0_5 v0_6 v0_7 v0_8 v0_9 v0_11 f1 f2 f3 f4 f5 f6 f7) (fun r => 0 ≤ r.1 ∧ r.1 ≤ 1200 ∧ 0 ≤ r.2.1 ∧ r.2.1 ≤ 1200 ∧ 0 ≤ r.2.2.1 ∧ r.2.2.1 ≤ 4 ∧ (∀ i : Nat, (-1) ≤ r.2.2.2.2 i ∧ r.2.2.2.2 i ≤ 3) ∧ v0_6 ≤ r.1 ∧ v0_8 ≤ r.2.2.1 ∧ (∀ i : Nat, r.2.2.2.2 i = f7 i ∨ 0 ≤ r.2.2.2.2 i ∧ r.2.2.2.2 i < f5 v0_11.toNatClampNeg)) := by
  unfold fn_X12_readsFixed
  refine zw_zb0 (sf_X12_toldNumber v0_5 v0_6 v0_7 v0_8 v0_9 v0_11 f1 f2 f3 f4 (by first | with_reducible assumption | exact ⟨by with_reducible assumption, by with_reducible assumption⟩ | first | lia | grind [zu_at, zu_atL, zvn]) (by first | with_reducible assumption | exact ⟨by with_reducible assumption, by with_reducible assumption⟩ | first | lia | grind [zu_at, zu_atL, zvn]) (by first | with_reducible assumption | exact ⟨by with_reducible assumption, by with_reducible assumption⟩ | first | lia | grind [zu_at, zu_atL, zvn]) (by first | with_reducible assumption | exact ⟨by with_reducible assumption, by with_reducible assumption⟩ | first | lia | grind [zu_at, zu_atL, zvn]) (by first | with_reducible assumption | exact ⟨by with_reducible assumption, by with_reducible assumption⟩ | first | lia | grind [zu_at, zu_atL, zvn]) (by first | with_reducible assumption | exact ⟨by with_reducible assumption, by with_reducible assumption⟩ | first | lia | grind [zu_at, zu_atL, zvn]) (by first | with_reducible assumption | exact ⟨by with_reducible assumption, by with_reducible assumption⟩ | first | lia | grind [zu_at, zu_atL, zvn]) (by first | with_reducible assumption | exact ⟨by with_reducible assumption, by with_reducible assumption⟩ | first | lia | grind [zu_at, zu_atL, zvn])) (fun o_1 ho_1 => ?_)
  obtain ⟨o_1_0, o_1_1, o_1_2, o_1_3, o_1_4⟩ := o_1
  try dsimp only at ho_1
  obtain ⟨ho_1_0, ho_1_1, ho_1_2, ho_1_3, ho_1_4, ho_1_5, ho_1_6, ho_1_7, ho_1_8, ho_1_9, ho_1_10⟩ := ho_1
  refine zw_zb0 (sf_X12_name v0_5 o_1_1 o_1_2 o_1_3 o_1_4 f1 f2 (by first | with_reducible assumption | exact ⟨by with_reducible assumption, by with_reducible assumption⟩ | first | lia | grind [zu_at, zu_atL, zvn]) (by first | with_reducible assumption | exact ⟨by with_reducible assumption, by with_reducible assumption⟩ | first | lia | grind [zu_at, zu_atL, zvn]) (by first | with_reducible assumption | exact ⟨by with_reducible assumption, by with_reducible assumption⟩ | first | lia | grind [zu_at, zu_atL, zvn]) (by first | with_reducible assumption | exact ⟨by with_reducible assumption, by with_reducible assumption⟩ | first | lia | grind [zu_at, zu_atL, zvn]) (by first | with_reducible assumption | exact ⟨by with_reducible assumption, by with_reducible assumption⟩ | first | lia | grind [zu_at, zu_atL, zvn]) (by first | with_reducible assumption | exact ⟨by with_reducible assumption, by with_reducible assumption⟩ | first | lia | grind [zu_at, zu_atL, zvn])) (fun o_5 ho_5 => ?_)
  obtain ⟨o_5_0, o_5_1, o_5_2, o_5_3, o_5_4⟩ := o_5
  try dsimp only at ho_5
  obtain ⟨ho_5_0, ho_5_1, ho_5_2, ho_5_3, ho_5_4, ho_5_5, ho_5_6, ho_5_7, ho_5_8⟩ := ho_5
  refine zw_zb0 (sf_X12_goesWell o_5_3 (by first | with_reducible assumption | exact ⟨by with_reducible assumption, by with_reducible assumption⟩ | first | lia | grind [zu_at, zu_atL, zvn])) (fun o_9 ho_9 => ?_)
  obtain ⟨ho_9_0, ho_9_1, ho_9_2, ho_9_3, ho_9_4, ho_9_5⟩ := ho_9
  refine zw_zj (fun s_13 => (-1) ≤ s_13 ∧ s_13 ≤ 3 ∧ s_13 ≤ o_9 + 2 ∧ v0_8 ≤ s_13 + 4 ∧ o_1_3 ≤ s_13 + 4 ∧ o_5_3 ≤ s_13 + 4) (fun s_13 Hj_13 => ?_) (fun j_13 hj_13 => ?_)
  · obtain ⟨Hj_13_0, Hj_13_1, Hj_13_2, Hj_13_3, Hj_13_4, Hj_13_5⟩ := Hj_13
    refine zw_zb0 (sf_X12_goesWell o_5_3 (by first | with_reducible assumption | exact ⟨by with_reducible assumption, by with_reducible assumption⟩ | first | lia | grind [zu_at, zu_atL, zvn])) (fun o_14 ho_14 => ?_)
    obtain ⟨ho_14_0, ho_14_1, ho_14_2, ho_14_3, ho_14_4, ho_14_5⟩ := ho_14
    refine zw_zj (fun s_18 => 0 ≤ s_18.1 ∧ s_18.1 ≤ 4 ∧ v0_8 ≤ s_18.1 ∧ o_1_3 ≤ s_18.1 ∧ o_5_3 ≤ s_18.1) (fun s_18 Hj_18 => ?_) (fun j_18 hj_18 => ?_)
    · obtain ⟨s_18_0, s_18_1⟩ := s_18
      try dsimp only at Hj_18
      obtain ⟨Hj_18_0, Hj_18_1, Hj_18_2, Hj_18_3, Hj_18_4⟩ := Hj_18
      refine zw_zb0 (sf_X12_goesWell s_18_0 (by first | with_reducible assumption | exact ⟨by with_reducible assumption, by with_reducible assumption⟩ | first | lia | grind [zu_at, zu_atL, zvn])) (fun o_19 ho_19 => ?_)
      obtain ⟨ho_19_0, ho_19_1, ho_19_2, ho_19_3, ho_19_4, ho_19_5⟩ := ho_19
      refine zw_if (fun c1 => ?_) (fun c1 => ?_)
      · refine zw_some ?_
        first | exact True.intro | ((try dsimp only); (repeat' apply And.intro) <;> first | with_reducible assumption | first | lia | grind [zu_at, zu_atL, zvn])
      refine zw_zb0 (sf_X12_n o_1_0 v0_11 (by first | with_reducible assumption | exact ⟨by with_reducible assumption, by with_reducible assumption⟩ | first | lia | grind [zu_at, zu_atL, zvn]) (by first | with_reducible assumption | exact ⟨by with_reducible assumption, by with_reducible assumption⟩ | first | lia | grind [zu_at, zu_atL, zvn])) (fun o_24 ho_24 => ?_)
      obtain ⟨ho_24_0, ho_24_1, ho_24_2, ho_24_3⟩ := ho_24
      refine zw_zg32 28 (by decide) (by (try dsimp only); first | lia | grind [zu_at, zu_atL, zvn]) ?_
      refine zw_some ?_
      first | exact True.intro | ((try dsimp only); (repeat' apply And.intro) <;> first | with_reducible assumption | first | lia | grind [zu_at, zu_atL, zvn])
    refine zw_if (fun c2 => ?_) (fun c2 => ?_)
    · exact hj_18 _ (by first | exact True.intro | ((try dsimp only); (repeat' apply And.intro) <;> first | with_reducible assumption | first | lia | grind [zu_at, zu_atL, zvn]))
    refine zw_if (fun c3 => ?_) (fun c3 => ?_)
    · refine zw_zb0 (sf_X12_faults 3 o_5_2 o_5_3 o_5_4 (by first | with_reducible assumption | exact ⟨by with_reducible assumption, by with_reducible assumption⟩ | first | lia | grind [zu_at, zu_atL, zvn]) (by first | with_reducible assumption | exact ⟨by with_reducible assumption, by with_reducible assumption⟩ | first | lia | grind [zu_at, zu_atL, zvn])) (fun o_31 ho_31 => ?_)
      obtain ⟨o_31_0, o_31_1⟩ := o_31
      try dsimp only at ho_31
      obtain ⟨ho_31_0, ho_31_1, ho_31_2, ho_31_3⟩ := ho_31
      exact hj_18 _ (by first | exact True.intro | ((try dsimp only); (repeat' apply And.intro) <;> first | with_reducible assumption | first | lia | grind [zu_at, zu_atL, zvn]))
    exact hj_18 _ (by first | exact True.intro | ((try dsimp only); (repeat' apply And.intro) <;> first | with_reducible assumption | first | lia | grind [zu_at, zu_atL, zvn]))
  refine zw_if (fun c4 => ?_) (fun c4 => ?_)
  · exact hj_13 _ (by first | exact True.intro | ((try dsimp only); (repeat' apply And.intro) <;> first | with_reducible assumption | first | lia | grind [zu_at, zu_atL, zvn]))
  refine zw_zb0 (sf_X12_formatNamed o_5_0 v0_11 f5 f6 (by first | with_reducible assumption | exact ⟨by with_reducible assumption, by with_reducible assumption⟩ | first | lia | grind [zu_at, zu_atL, zvn]) (by first | with_reducible assumption | exact ⟨by with_reducible assumption, by with_reducible assumption⟩ | first | lia | grind [zu_at, zu_atL, zvn])) (fun o_36 ho_36 => ?_)
  obtain ⟨ho_36_0, ho_36_1, ho_36_2, ho_36_3, ho_36_4⟩ := ho_36
  exact hj_13 _ (by first | exact True.intro | ((try dsimp only); (repeat' apply And.intro) <;> first | with_reducible assumption | first | lia | grind [zu_at, zu_atL, zvn]))
set_option maxHeartbeats 4000000 in
set_option maxRecDepth 100000 in
theorem sf_X12_readsGroup (v0_5 : Int32) (v0_6 : Int32) (v0_7 : Int32) (v0_8 : Int32) (v0_9 : Int32) (v0_11 : Int32) (f1 : Nat → Int32) (f2 : Nat → Int32) (f3 : Nat → Int32) (f4 : Nat → Int32) (f5 : Nat → Int32) (h_v0_5 : 0 ≤ v0_5 ∧ v0_5 ≤ 1200) (h_v0_6 : 0 ≤ v0_6 ∧ v0_6 ≤ 1200) (h_v0_7 : 0 ≤ v0_7 ∧ v0_7 ≤ 1200) (h_v0_8 : 0 ≤ v0_8 ∧ v0_8 ≤ 4) (h_v0_11 : 1 ≤ v0_11 ∧ v0_11 ≤ 1) (h_f1 : (∀ i : Nat, 0 ≤ f1 i ∧ f1 i ≤ 255)) (h_f3 : (∀ i : Nat, 0 ≤ f3 i ∧ f3 i ≤ 14)) (h_f5 : (∀ i : Nat, 0 ≤ f5 i ∧ f5 i ≤ 13)) (hx_0 : (∀ k : Nat, k < 71 → f2 k = zTab k)) : zw (fn_X12_readsGroup v0_5 v0_6 v0_7 v0_8 v0_9 v0_11 f1 f2 f3 f4 f5) (fun r => 0 ≤ r.1 ∧ r.1 ≤ 1200 ∧ 0 ≤ r.2.1 ∧ r.2.1 ≤ 1200 ∧ 0 ≤ r.2.2.1 ∧ r.2.2.1 ≤ 4 ∧ (∀ i : Nat, 0 ≤ r.2.2.2.2 i ∧ r.2.2.2.2 i ≤ 13) ∧ v0_6 ≤ r.1 ∧ v0_8 ≤ r.2.2.1) := by
  unfold fn_X12_readsGroup
  refine zw_zb0 (sf_X12_toldNumber v0_5 v0_6 v0_7 v0_8 v0_9 v0_11 f1 f2 f3 f4 (by first | with_reducible assumption | exact ⟨by with_reducible assumption, by with_reducible assumption⟩ | first | lia | grind [zu_at, zu_atL, zvn]) (by first | with_reducible assumption | exact ⟨by with_reducible assumption, by with_reducible assumption⟩ | first | lia | grind [zu_at, zu_atL, zvn]) (by first | with_reducible assumption | exact ⟨by with_reducible assumption, by with_reducible assumption⟩ | first | lia | grind [zu_at, zu_atL, zvn]) (by first | with_reducible assumption | exact ⟨by with_reducible assumption, by with_reducible assumption⟩ | first | lia | grind [zu_at, zu_atL, zvn]) (by first | with_reducible assumption | exact ⟨by with_reducible assumption, by with_reducible assumption⟩ | first | lia | grind [zu_at, zu_atL, zvn]) (by first | with_reducible assumption | exact ⟨by with_reducible assumption, by with_reducible assumption⟩ | first | lia | grind [zu_at, zu_atL, zvn]) (by first | with_reducible assumption | exact ⟨by with_reducible assumption, by with_reducible assumption⟩ | first | lia | grind [zu_at, zu_atL, zvn]) (by first | with_reducible assumption | exact ⟨by with_reducible assumption, by with_reducible assumption⟩ | first | lia | grind [zu_at, zu_atL, zvn])) (fun o_1 ho_1 => ?_)
  obtain ⟨o_1_0, o_1_1, o_1_2, o_1_3, o_1_4⟩ := o_1
  try dsimp only at ho_1
  obtain ⟨ho_1_0, ho_1_1, ho_1_2, ho_1_3, ho_1_4, ho_1_5, ho_1_6, ho_1_7, ho_1_8, ho_1_9, ho_1_10⟩ := ho_1
  refine zw_zb0 (sf_X12_toldNumber v0_5 o_1_1 o_1_2 o_1_3 o_1_4 v0_11 f1 f2 f3 f4 (by first | with_reducible assumption | exact ⟨by with_reducible assumption, by with_reducible assumption⟩ | first | lia | grind [zu_at, zu_atL, zvn]) (by first | with_reducible assumption | exact ⟨by with_reducible assumption, by with_reducible assumption⟩ | first | lia | grind [zu_at, zu_atL, zvn]) (by first | with_reducible assumption | exact ⟨by with_reducible assumption, by with_reducible assumption⟩ | first | lia | grind [zu_at, zu_atL, zvn]) (by first | with_reducible assumption | exact ⟨by with_reducible assumption, by with_reducible assumption⟩ | first | lia | grind [zu_at, zu_atL, zvn]) (by first | with_reducible assumption | exact ⟨by with_reducible assumption, by with_reducible assumption⟩ | first | lia | grind [zu_at, zu_atL, zvn]) (by first | with_reducible assumption | exact ⟨by with_reducible assumption, by with_reducible assumption⟩ | first | lia | grind [zu_at, zu_atL, zvn]) (by first | with_reducible assumption | exact ⟨by with_reducible assumption, by with_reducible assumption⟩ | first | lia | grind [zu_at, zu_atL, zvn]) (by first | with_reducible assumption | exact ⟨by with_reducible assumption, by with_reducible assumption⟩ | first | lia | grind [zu_at, zu_atL, zvn])) (fun o_5 ho_5 => ?_)
  obtain ⟨o_5_0, o_5_1, o_5_2, o_5_3, o_5_4⟩ := o_5
  try dsimp only at ho_5
  obtain ⟨ho_5_0, ho_5_1, ho_5_2, ho_5_3, ho_5_4, ho_5_5, ho_5_6, ho_5_7, ho_5_8, ho_5_9, ho_5_10⟩ := ho_5
  refine zw_zb0 (sf_X12_goesWell o_5_3 (by first | with_reducible assumption | exact ⟨by with_reducible assumption, by with_reducible assumption⟩ | first | lia | grind [zu_at, zu_atL, zvn])) (fun o_9 ho_9 => ?_)
  obtain ⟨ho_9_0, ho_9_1, ho_9_2, ho_9_3, ho_9_4, ho_9_5⟩ := ho_9
  refine zw_zj (fun s_13 => 0 ≤ s_13.1 ∧ s_13.1 ≤ 4 ∧ v0_8 ≤ s_13.1 ∧ o_1_3 ≤ s_13.1 ∧ o_5_3 ≤ s_13.1) (fun s_13 Hj_13 => ?_) (fun j_13 hj_13 => ?_)
  · obtain ⟨s_13_0, s_13_1⟩ := s_13
    try dsimp only at Hj_13
    obtain ⟨Hj_13_0, Hj_13_1, Hj_13_2, Hj_13_3, Hj_13_4⟩ := Hj_13
    refine zw_zb0 (sf_X12_goesWell s_13_0 (by first | with_reducible assumption | exact ⟨by with_reducible assumption, by with_reducible assumption⟩ | first | lia | grind [zu_at, zu_atL, zvn])) (fun o_14 ho_14 => ?_)
    obtain ⟨ho_14_0, ho_14_1, ho_14_2, ho_14_3, ho_14_4, ho_14_5⟩ := ho_14
    refine zw_if (fun c1 => ?_) (fun c1 => ?_)
    · refine zw_some ?_
      first | exact True.intro | ((try dsimp only); (repeat' apply And.intro) <;> first | with_reducible assumption | first | lia | grind [zu_at, zu_atL, zvn])
    refine zw_zb0 (sf_X12_n o_1_0 v0_11 (by first | with_reducible assumption | exact ⟨by with_reducible assumption, by with_reducible assumption⟩ | first | lia | grind [zu_at, zu_atL, zvn]) (by first | with_reducible assumption | exact ⟨by with_reducible assumption, by with_reducible assumption⟩ | first | lia | grind [zu_at, zu_atL, zvn])) (fun o_19 ho_19 => ?_)
    obtain ⟨ho_19_0, ho_19_1, ho_19_2, ho_19_3⟩ := ho_19
    refine zw_zg32 28 (by decide) (by (try dsimp only); first | lia | grind [zu_at, zu_atL, zvn]) ?_
    refine zw_zb0 (sf_X12_n o_5_0 v0_11 (by first | with_reducible assumption | exact ⟨by with_reducible assumption, by with_reducible assumption⟩ | first | lia | grind [zu_at, zu_atL, zvn]) (by first | with_reducible assumption | exact ⟨by with_reducible assumption, by with_reducible assumption⟩ | first | lia | grind [zu_at, zu_atL, zvn])) (fun o_24 ho_24 => ?_)
    obtain ⟨ho_24_0, ho_24_1, ho_24_2, ho_24_3⟩ := ho_24
    refine zw_zg32 28 (by decide) (by (try dsimp only); first | lia | grind [zu_at, zu_atL, zvn]) ?_
    refine zw_zb0 (sf_X12_lesser ((f5 o_19.toNatClampNeg).toInt64) ((f5 o_24.toNatClampNeg).toInt64)) (fun o_29 ho_29 => ?_)
    refine zw_zl32 (fun s_33 => (∀ i : Nat, 0 ≤ s_33.2 i ∧ s_33.2 i ≤ 13) ∧ 0 ≤ s_33.1 ∧ s_33.1 ≤ 14) (fun s_33 => 14 - s_33.1) (by (try dsimp only); (repeat' apply And.intro) <;> first | with_reducible assumption | first | lia | grind [zu_at, zu_atL, zvn]) (by (try dsimp only); first | lia | grind [zu_at, zu_atL, zvn]) (fun s_33 back_33 Hback_33 hback_33 => ?_)
    obtain ⟨s_33_0, s_33_1⟩ := s_33
    try dsimp only at Hback_33 hback_33
    obtain ⟨Hback_33_0, Hback_33_1, Hback_33_2⟩ := Hback_33
    refine zw_zg32 2 (by decide) (by (try dsimp only); first | lia | grind [zu_at, zu_atL, zvn]) ?_
    refine zw_if (fun c2 => ?_) (fun c2 => ?_)
    · refine zw_some ?_
      first | exact True.intro | ((try dsimp only); (repeat' apply And.intro) <;> first | with_reducible assumption | first | lia | grind [zu_at, zu_atL, zvn])
    refine zw_zb0 (sf_X12_n s_33_0 v0_11 (by first | with_reducible assumption | exact ⟨by with_reducible assumption, by with_reducible assumption⟩ | first | lia | grind [zu_at, zu_atL, zvn]) (by first | with_reducible assumption | exact ⟨by with_reducible assumption, by with_reducible assumption⟩ | first | lia | grind [zu_at, zu_atL, zvn])) (fun o_36 ho_36 => ?_)
    obtain ⟨ho_36_0, ho_36_1, ho_36_2, ho_36_3⟩ := ho_36
    refine zw_zg32 28 (by decide) (by (try dsimp only); first | lia | grind [zu_at, zu_atL, zvn]) ?_
    refine zw_zj (fun _ => (s_33_1 o_36.toNatClampNeg) ≤ 13 ∧ 0 ≤ (s_33_1 o_36.toNatClampNeg)) (fun s_41 Hj_41 => ?_) (fun j_41 hj_41 => ?_)
    · obtain ⟨Hj_41_0, Hj_41_1⟩ := Hj_41
      refine zw_zb0 (sf_X12_n s_33_0 v0_11 (by first | with_reducible assumption | exact ⟨by with_reducible assumption, by with_reducible assumption⟩ | first | lia | grind [zu_at, zu_atL, zvn]) (by first | with_reducible assumption | exact ⟨by with_reducible assumption, by with_reducible assumption⟩ | first | lia | grind [zu_at, zu_atL, zvn])) (fun o_42 ho_42 => ?_)
      obtain ⟨ho_42_0, ho_42_1, ho_42_2, ho_42_3⟩ := ho_42
      refine zw_zg32 28 (by decide) (by (try dsimp only); first | lia | grind [zu_at, zu_atL, zvn]) ?_
      exact hback_33 _ (by (try dsimp only); (repeat' apply And.intro) <;> first | with_reducible assumption | first | lia | grind [zu_at, zu_atL, zvn]) (by (try dsimp only); first | lia | grind [zu_at, zu_atL, zvn]) (by (try dsimp only); first | lia | grind [zu_at, zu_atL, zvn])
    refine zw_if (fun c3 => ?_) (fun c3 => ?_)
    · exact hj_41 _ (by first | exact True.intro | ((try dsimp only); (repeat' apply And.intro) <;> first | with_reducible assumption | first | lia | grind [zu_at, zu_atL, zvn]))
    refine zw_zb0 (sf_X12_n s_33_0 v0_11 (by first | with_reducible assumption | exact ⟨by with_reducible assumption, by with_reducible assumption⟩ | first | lia | grind [zu_at, zu_atL, zvn]) (by first | with_reducible assumption | exact ⟨by with_reducible assumption, by with_reducible assumption⟩ | first | lia | grind [zu_at, zu_atL, zvn])) (fun o_48 ho_48 => ?_)
    obtain ⟨ho_48_0, ho_48_1, ho_48_2, ho_48_3⟩ := ho_48
    refine zw_zg32 28 (by decide) (by (try dsimp only); first | lia | grind [zu_at, zu_atL, zvn]) ?_
    refine zw_if (fun c4 => ?_) (fun c4 => ?_)
    · exact hj_41 _ (by first | exact True.intro | ((try dsimp only); (repeat' apply And.intro) <;> first | with_reducible assumption | first | lia | grind [zu_at, zu_atL, zvn]))
    exact hback_33 _ (by (try dsimp only); (repeat' apply And.intro) <;> first | with_reducible assumption | first | lia | grind [zu_at, zu_atL, zvn]) (by (try dsimp only); first | lia | grind [zu_at, zu_atL, zvn]) (by (try dsimp only); first | lia | grind [zu_at, zu_atL, zvn])
  refine zw_if (fun c5 => ?_) (fun c5 => ?_)
  · exact hj_13 _ (by first | exact True.intro | ((try dsimp only); (repeat' apply And.intro) <;> first | with_reducible assumption | first | lia | grind [zu_at, zu_atL, zvn]))
  refine zw_if (fun c6 => ?_) (fun c6 => ?_)
  · refine zw_zb0 (sf_X12_faults 3 o_5_2 o_5_3 o_5_4 (by first | with_reducible assumption | exact ⟨by with_reducible assumption, by with_reducible assumption⟩ | first | lia | grind [zu_at, zu_atL, zvn]) (by first | with_reducible assumption | exact ⟨by with_reducible assumption, by with_reducible assumption⟩ | first | lia | grind [zu_at, zu_atL, zvn])) (fun o_56 ho_56 => ?_)
    obtain ⟨o_56_0, o_56_1⟩ := o_56
    try dsimp only at ho_56
    obtain ⟨ho_56_0, ho_56_1, ho_56_2, ho_56_3⟩ := ho_56
    exact hj_13 _ (by first | exact True.intro | ((try dsimp only); (repeat' apply And.intro) <;> first | with_reducible assumption | first | lia | grind [zu_at, zu_atL, zvn]))
  exact hj_13 _ (by first | exact True.intro | ((try dsimp only); (repeat' apply And.intro) <;> first | with_reducible assumption | first | lia | grind [zu_at, zu_atL, zvn]))
