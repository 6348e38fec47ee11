set_option maxHeartbeats 4000000 in
set_option maxRecDepth 100000 in
theorem sf_X10_open (p2 : Int32) (f1 : Nat → Int32) (f2 : Nat → Int32) : zw (fn_X10_open p2 f1 f2) (fun r => 0 ≤ r.1 ∧ r.1 ≤ 1200 ∧ 0 ≤ r.2.1 ∧ r.2.1 ≤ 1200 ∧ 0 ≤ r.2.2.1 ∧ r.2.2.1 ≤ 5 ∧ 0 ≤ r.2.2.2.1 ∧ r.2.2.2.1 ≤ 1200 ∧ (-1) ≤ r.2.2.2.2.2 ∧ r.2.2.2.2.2 ≤ 12) := by
  unfold fn_X10_open
  refine zw_zn (fun x_1 ex_1 => ?_)
  refine zw_zb0 (sf_X10_advance x_1 0 0 f1 f2 (by first | with_reducible assumption | exact ⟨by with_reducible assumption, by with_reducible assumption⟩ | first | lia | grind [zu_at, zu_atL, zvn]) (by first | with_reducible assumption | exact ⟨by with_reducible assumption, by with_reducible assumption⟩ | first | lia | grind [zu_at, zu_atL, zvn]) (by first | with_reducible assumption | exact ⟨by with_reducible assumption, by with_reducible assumption⟩ | first | lia | grind [zu_at, zu_atL, zvn])) (fun o_2 ho_2 => ?_)
  obtain ⟨o_2_0, o_2_1, o_2_2, o_2_3, o_2_4⟩ := o_2
  try dsimp only at ho_2
  obtain ⟨ho_2_0, ho_2_1, ho_2_2, ho_2_3, ho_2_4, ho_2_5, ho_2_6, ho_2_7⟩ := ho_2
  refine zw_some ?_
  first | exact True.intro | ((try dsimp only); first | with_reducible assumption | grind [zu_at, zu_atL, zvn] | ((repeat' apply And.intro) <;> first | with_reducible assumption | first | lia | grind [zu_at, zu_atL, zvn]))
set_option maxHeartbeats 4000000 in
set_option maxRecDepth 100000 in
theorem sf_X5_startsStatement (p0 : Int32) : zw (fn_X5_startsStatement p0) (fun r => 0 ≤ r ∧ r ≤ 1) := by
  unfold fn_X5_startsStatement
  refine zw_if (fun c1 => ?_) (fun c1 => ?_)
  · refine zw_some ?_
    first | exact True.intro | ((try dsimp only); first | with_reducible assumption | grind [zu_at, zu_atL, zvn] | ((repeat' apply And.intro) <;> first | with_reducible assumption | first | lia | grind [zu_at, zu_atL, zvn]))
  refine zw_if (fun c2 => ?_) (fun c2 => ?_)
  · refine zw_some ?_
    first | exact True.intro | ((try dsimp only); first | with_reducible assumption | grind [zu_at, zu_atL, zvn] | ((repeat' apply And.intro) <;> first | with_reducible assumption | first | lia | grind [zu_at, zu_atL, zvn]))
  refine zw_if (fun c3 => ?_) (fun c3 => ?_)
  · refine zw_some ?_
    first | exact True.intro | ((try dsimp only); first | with_reducible assumption | grind [zu_at, zu_atL, zvn] | ((repeat' apply And.intro) <;> first | with_reducible assumption | first | lia | grind [zu_at, zu_atL, zvn]))
  refine zw_if (fun c4 => ?_) (fun c4 => ?_)
  · refine zw_some ?_
    first | exact True.intro | ((try dsimp only); first | with_reducible assumption | grind [zu_at, zu_atL, zvn] | ((repeat' apply And.intro) <;> first | with_reducible assumption | first | lia | grind [zu_at, zu_atL, zvn]))
  refine zw_if (fun c5 => ?_) (fun c5 => ?_)
  · refine zw_some ?_
    first | exact True.intro | ((try dsimp only); first | with_reducible assumption | grind [zu_at, zu_atL, zvn] | ((repeat' apply And.intro) <;> first | with_reducible assumption | first | lia | grind [zu_at, zu_atL, zvn]))
  refine zw_if (fun c6 => ?_) (fun c6 => ?_)
  · refine zw_some ?_
    first | exact True.intro | ((try dsimp only); first | with_reducible assumption | grind [zu_at, zu_atL, zvn] | ((repeat' apply And.intro) <;> first | with_reducible assumption | first | lia | grind [zu_at, zu_atL, zvn]))
  refine zw_if (fun c7 => ?_) (fun c7 => ?_)
  · refine zw_some ?_
    first | exact True.intro | ((try dsimp only); first | with_reducible assumption | grind [zu_at, zu_atL, zvn] | ((repeat' apply And.intro) <;> first | with_reducible assumption | first | lia | grind [zu_at, zu_atL, zvn]))
  refine zw_if (fun c8 => ?_) (fun c8 => ?_)
  · refine zw_some ?_
    first | exact True.intro | ((try dsimp only); first | with_reducible assumption | grind [zu_at, zu_atL, zvn] | ((repeat' apply And.intro) <;> first | with_reducible assumption | first | lia | grind [zu_at, zu_atL, zvn]))
  refine zw_if (fun c9 => ?_) (fun c9 => ?_)
  · refine zw_some ?_
    first | exact True.intro | ((try dsimp only); first | with_reducible assumption | grind [zu_at, zu_atL, zvn] | ((repeat' apply And.intro) <;> first | with_reducible assumption | first | lia | grind [zu_at, zu_atL, zvn]))
  refine zw_if (fun c10 => ?_) (fun c10 => ?_)
  · refine zw_some ?_
    first | exact True.intro | ((try dsimp only); first | with_reducible assumption | grind [zu_at, zu_atL, zvn] | ((repeat' apply And.intro) <;> first | with_reducible assumption | first | lia | grind [zu_at, zu_atL, zvn]))
  refine zw_if (fun c11 => ?_) (fun c11 => ?_)
  · refine zw_some ?_
    first | exact True.intro | ((try dsimp only); first | with_reducible assumption | grind [zu_at, zu_atL, zvn] | ((repeat' apply And.intro) <;> first | with_reducible assumption | first | lia | grind [zu_at, zu_atL, zvn]))
  refine zw_if (fun c12 => ?_) (fun c12 => ?_)
  · refine zw_some ?_
    first | exact True.intro | ((try dsimp only); first | with_reducible assumption | grind [zu_at, zu_atL, zvn] | ((repeat' apply And.intro) <;> first | with_reducible assumption | first | lia | grind [zu_at, zu_atL, zvn]))
  refine zw_some ?_
  first | exact True.intro | ((try dsimp only); first | with_reducible assumption | grind [zu_at, zu_atL, zvn] | ((repeat' apply And.intro) <;> first | with_reducible assumption | first | lia | grind [zu_at, zu_atL, zvn]))
set_option maxHeartbeats 4000000 in
set_option maxRecDepth 100000 in
theorem sf_X5_stopAt (p1 : Int32) (p2 : Int32) : zw (fn_X5_stopAt p1 p2) (fun r => 0 ≤ r.1 ∧ r.1 ≤ 1 ∧ r.1 ≤ 0) := by
  unfold fn_X5_stopAt
  refine zw_some ?_
  first | exact True.intro | ((try dsimp only); first | with_reducible assumption | grind [zu_at, zu_atL, zvn] | ((repeat' apply And.intro) <;> first | with_reducible assumption | first | lia | grind [zu_at, zu_atL, zvn]))
set_option maxHeartbeats 4000000 in
set_option maxRecDepth 100000 in
theorem sf_X5_isFull (p1 : Int32) (v0_0 : Int32) (v1_0 : Int32) (h_v0_0 : 0 ≤ v0_0 ∧ v0_0 ≤ 4) (h_v1_0 : 0 ≤ v1_0 ∧ v1_0 ≤ 14) : zw (fn_X5_isFull p1 v0_0 v1_0) (fun r => 0 ≤ r ∧ r ≤ 1 ∧ (r = 0 → r ≤ v0_0 ∧ r ≤ v1_0) ∧ (¬ r = 0 → 1 ≤ r) ∧ (r = 1 → v0_0 ≤ r + 3) ∧ (¬ r = 1 → r ≤ 0)) := by
  unfold fn_X5_isFull
  refine zw_if (fun c1 => ?_) (fun c1 => ?_)
  · refine zw_if (fun c2 => ?_) (fun c2 => ?_)
    · refine zw_some ?_
      first | exact True.intro | ((try dsimp only); first | with_reducible assumption | grind [zu_at, zu_atL, zvn] | ((repeat' apply And.intro) <;> first | with_reducible assumption | first | lia | grind [zu_at, zu_atL, zvn]))
    refine zw_some ?_
    first | exact True.intro | ((try dsimp only); first | with_reducible assumption | grind [zu_at, zu_atL, zvn] | ((repeat' apply And.intro) <;> first | with_reducible assumption | first | lia | grind [zu_at, zu_atL, zvn]))
  refine zw_zj (fun s_2 => 0 ≤ s_2 ∧ s_2 ≤ 1) (fun s_2 Hj_2 => ?_) (fun j_2 hj_2 => ?_)
  · obtain ⟨Hj_2_0, Hj_2_1⟩ := Hj_2
    refine zw_if (fun c3 => ?_) (fun c3 => ?_)
    · refine zw_some ?_
      first | exact True.intro | ((try dsimp only); first | with_reducible assumption | grind [zu_at, zu_atL, zvn] | ((repeat' apply And.intro) <;> first | with_reducible assumption | ((try clear hj_2); first | lia | grind [zu_at, zu_atL, zvn])))
    refine zw_if (fun c4 => ?_) (fun c4 => ?_)
    · refine zw_some ?_
      first | exact True.intro | ((try dsimp only); first | with_reducible assumption | grind [zu_at, zu_atL, zvn] | ((repeat' apply And.intro) <;> first | with_reducible assumption | ((try clear hj_2); first | lia | grind [zu_at, zu_atL, zvn])))
    refine zw_some ?_
    first | exact True.intro | ((try dsimp only); first | with_reducible assumption | grind [zu_at, zu_atL, zvn] | ((repeat' apply And.intro) <;> first | with_reducible assumption | ((try clear hj_2); first | lia | grind [zu_at, zu_atL, zvn])))
  refine zw_zj (fun _ => 5 ≤ p1 ∧ p1 ≤ 6) (fun s_5 Hj_5 => ?_) (fun j_5 hj_5 => ?_)
  · obtain ⟨Hj_5_0, Hj_5_1⟩ := Hj_5
    exact hj_2 _ (by first | exact True.intro | ((try dsimp only); first | with_reducible assumption | grind [zu_at, zu_atL, zvn] | ((repeat' apply And.intro) <;> first | with_reducible assumption | ((try clear hj_2); (try clear hj_5); first | lia | grind [zu_at, zu_atL, zvn]))))
  refine zw_if (fun c5 => ?_) (fun c5 => ?_)
  · exact hj_5 _ (by first | exact True.intro | ((try dsimp only); first | with_reducible assumption | grind [zu_at, zu_atL, zvn] | ((repeat' apply And.intro) <;> first | with_reducible assumption | ((try clear hj_2); (try clear hj_5); first | lia | grind [zu_at, zu_atL, zvn]))))
  refine zw_if (fun c6 => ?_) (fun c6 => ?_)
  · exact hj_5 _ (by first | exact True.intro | ((try dsimp only); first | with_reducible assumption | grind [zu_at, zu_atL, zvn] | ((repeat' apply And.intro) <;> first | with_reducible assumption | ((try clear hj_2); (try clear hj_5); first | lia | grind [zu_at, zu_atL, zvn]))))
  exact hj_2 _ (by first | exact True.intro | ((try dsimp only); first | with_reducible assumption | grind [zu_at, zu_atL, zvn] | ((repeat' apply And.intro) <;> first | with_reducible assumption | ((try clear hj_2); (try clear hj_5); first | lia | grind [zu_at, zu_atL, zvn]))))
set_option maxHeartbeats 4000000 in
set_option maxRecDepth 100000 in
theorem sf_X10_isName (v0_4 : Int32) (v0_7 : Int32) (h_v0_4 : 0 ≤ v0_4 ∧ v0_4 ≤ 5) (h_v0_7 : (-1) ≤ v0_7 ∧ v0_7 ≤ 12) : zw (fn_X10_isName v0_4 v0_7) (fun r => 0 ≤ r ∧ r ≤ 1 ∧ r ≤ v0_4 ∧ (r = 1 → 1 ≤ v0_4 ∧ v0_4 ≤ 1 ∧ v0_7 ≤ (-1) ∧ v0_4 ≤ r) ∧ (¬ r = 1 → r ≤ 0) ∧ (r = 0 → r ≤ v0_7 + 1) ∧ (¬ r = 0 → 1 ≤ r ∧ v0_4 ≤ 1 ∧ v0_7 ≤ (-1))) := by
  unfold fn_X10_isName
  refine zw_if (fun c1 => ?_) (fun c1 => ?_)
  · refine zw_if (fun c2 => ?_) (fun c2 => ?_)
    · refine zw_some ?_
      first | exact True.intro | ((try dsimp only); first | with_reducible assumption | grind [zu_at, zu_atL, zvn] | ((repeat' apply And.intro) <;> first | with_reducible assumption | first | lia | grind [zu_at, zu_atL, zvn]))
    refine zw_some ?_
    first | exact True.intro | ((try dsimp only); first | with_reducible assumption | grind [zu_at, zu_atL, zvn] | ((repeat' apply And.intro) <;> first | with_reducible assumption | first | lia | grind [zu_at, zu_atL, zvn]))
  refine zw_some ?_
  first | exact True.intro | ((try dsimp only); first | with_reducible assumption | grind [zu_at, zu_atL, zvn] | ((repeat' apply And.intro) <;> first | with_reducible assumption | first | lia | grind [zu_at, zu_atL, zvn]))
set_option maxHeartbeats 4000000 in
set_option maxRecDepth 100000 in
theorem sf_X9_findFormat (p1 : Int32) (v0_0 : Int32) (f1 : Nat → Int32) (h_v0_0 : 0 ≤ v0_0 ∧ v0_0 ≤ 4) : zw (fn_X9_findFormat p1 v0_0 f1) (fun r => (-1) ≤ r ∧ r ≤ 3) := by
  unfold fn_X9_findFormat
  refine zw_zl32 (fun s_1 => 0 ≤ s_1 ∧ s_1 ≤ 4 ∧ s_1 ≤ v0_0) (fun s_1 => 4 - s_1) (by (try dsimp only); first | with_reducible assumption | grind [zu_at, zu_atL, zvn] | ((repeat' apply And.intro) <;> first | with_reducible assumption | first | lia | grind [zu_at, zu_atL, zvn])) (by (try dsimp only); first | lia | grind [zu_at, zu_atL, zvn]) (fun s_1 back_1 Hback_1 hback_1 => ?_)
  obtain ⟨Hback_1_0, Hback_1_1, Hback_1_2⟩ := Hback_1
  refine zw_if (fun c1 => ?_) (fun c1 => ?_)
  · refine zw_some ?_
    first | exact True.intro | ((try dsimp only); first | with_reducible assumption | grind [zu_at, zu_atL, zvn] | ((repeat' apply And.intro) <;> first | with_reducible assumption | ((try clear hback_1); first | lia | grind [zu_at, zu_atL, zvn])))
  refine zw_zg32 4 (by decide) (by (try dsimp only); ((try clear hback_1); first | lia | grind [zu_at, zu_atL, zvn])) ?_
  refine zw_if (fun c2 => ?_) (fun c2 => ?_)
  · refine zw_some ?_
    first | exact True.intro | ((try dsimp only); first | with_reducible assumption | grind [zu_at, zu_atL, zvn] | ((repeat' apply And.intro) <;> first | with_reducible assumption | ((try clear hback_1); first | lia | grind [zu_at, zu_atL, zvn])))
  exact hback_1 _ (by (try dsimp only); first | with_reducible assumption | grind [zu_at, zu_atL, zvn] | ((repeat' apply And.intro) <;> first | with_reducible assumption | ((try clear hback_1); first | lia | grind [zu_at, zu_atL, zvn]))) (by (try dsimp only); ((try clear hback_1); first | lia | grind [zu_at, zu_atL, zvn])) (by (try dsimp only); ((try clear hback_1); first | lia | grind [zu_at, zu_atL, zvn]))
set_option maxHeartbeats 4000000 in
set_option maxRecDepth 100000 in
theorem sf_X5_readNewName (v0_1 : Int32) (v0_2 : Int32) (v0_3 : Int32) (v1_2 : Int32) (v1_3 : Int32) (v1_4 : Int32) (v1_5 : Int32) (v1_6 : Int32) (v1_7 : Int32) (v2_0 : Int32) (f3 : Nat → Int32) (v4_0 : Int32) (f5 : Nat → Int32) (f6 : Nat → Int32) (f7 : Nat → Int32) (h_v1_2 : 0 ≤ v1_2 ∧ v1_2 ≤ 1200) (h_v1_3 : 0 ≤ v1_3 ∧ v1_3 ≤ 1200) (h_v1_4 : 0 ≤ v1_4 ∧ v1_4 ≤ 5) (h_v1_5 : 0 ≤ v1_5 ∧ v1_5 ≤ 1200) (h_v1_7 : (-1) ≤ v1_7 ∧ v1_7 ≤ 12) (h_v2_0 : 0 ≤ v2_0 ∧ v2_0 ≤ 4) (h_v4_0 : 0 ≤ v4_0 ∧ v4_0 ≤ 14) : zw (fn_X5_readNewName v0_1 v0_2 v0_3 v1_2 v1_3 v1_4 v1_5 v1_6 v1_7 v2_0 f3 v4_0 f5 f6 f7) (fun r => 0 ≤ r.1 ∧ r.1 ≤ 1 ∧ 0 ≤ r.2.2.2.2.1 ∧ r.2.2.2.2.1 ≤ 1200 ∧ 0 ≤ r.2.2.2.2.2.1 ∧ r.2.2.2.2.2.1 ≤ 5 ∧ 0 ≤ r.2.2.2.2.2.2.1 ∧ r.2.2.2.2.2.2.1 ≤ 1200 ∧ (-1) ≤ r.2.2.2.2.2.2.2.2 ∧ r.2.2.2.2.2.2.2.2 ≤ 12) := by
  unfold fn_X5_readNewName
  refine zw_zb0 (sf_X10_isName v1_4 v1_7 (by first | with_reducible assumption | exact ⟨by with_reducible assumption, by with_reducible assumption⟩ | first | lia | grind [zu_at, zu_atL, zvn]) (by first | with_reducible assumption | exact ⟨by with_reducible assumption, by with_reducible assumption⟩ | first | lia | grind [zu_at, zu_atL, zvn])) (fun o_1 ho_1 => ?_)
  obtain ⟨ho_1_0, ho_1_1, ho_1_2, ho_1_3, ho_1_4, ho_1_5, ho_1_6⟩ := ho_1
  refine zw_if (fun c1 => ?_) (fun c1 => ?_)
  · refine zw_zb0 (sf_X5_stopAt 1 v1_5) (fun o_28 ho_28 => ?_)
    obtain ⟨o_28_0, o_28_1, o_28_2⟩ := o_28
    try dsimp only at ho_28
    obtain ⟨ho_28_0, ho_28_1, ho_28_2⟩ := ho_28
    refine zw_some ?_
    first | exact True.intro | ((try dsimp only); first | with_reducible assumption | grind [zu_at, zu_atL, zvn] | ((repeat' apply And.intro) <;> first | with_reducible assumption | first | lia | grind [zu_at, zu_atL, zvn]))
  refine zw_zb0 (sf_X9_findFormat v1_6 v2_0 f3 (by first | with_reducible assumption | exact ⟨by with_reducible assumption, by with_reducible assumption⟩ | first | lia | grind [zu_at, zu_atL, zvn])) (fun o_6 ho_6 => ?_)
  obtain ⟨ho_6_0, ho_6_1⟩ := ho_6
  refine zw_if (fun c2 => ?_) (fun c2 => ?_)
  · refine zw_zb0 (sf_X4_find v1_6 v4_0 f5 (by first | with_reducible assumption | exact ⟨by with_reducible assumption, by with_reducible assumption⟩ | first | lia | grind [zu_at, zu_atL, zvn])) (fun o_15 ho_15 => ?_)
    obtain ⟨ho_15_0, ho_15_1⟩ := ho_15
    refine zw_if (fun c3 => ?_) (fun c3 => ?_)
    · refine zw_zb0 (sf_X10_advance v1_2 v1_3 v1_4 f6 f7 (by first | with_reducible assumption | exact ⟨by with_reducible assumption, by with_reducible assumption⟩ | first | lia | grind [zu_at, zu_atL, zvn]) (by first | with_reducible assumption | exact ⟨by with_reducible assumption, by with_reducible assumption⟩ | first | lia | grind [zu_at, zu_atL, zvn]) (by first | with_reducible assumption | exact ⟨by with_reducible assumption, by with_reducible assumption⟩ | first | lia | grind [zu_at, zu_atL, zvn])) (fun o_20 ho_20 => ?_)
      obtain ⟨o_20_0, o_20_1, o_20_2, o_20_3, o_20_4⟩ := o_20
      try dsimp only at ho_20
      obtain ⟨ho_20_0, ho_20_1, ho_20_2, ho_20_3, ho_20_4, ho_20_5, ho_20_6, ho_20_7⟩ := ho_20
      refine zw_some ?_
      first | exact True.intro | ((try dsimp only); first | with_reducible assumption | grind [zu_at, zu_atL, zvn] | ((repeat' apply And.intro) <;> first | with_reducible assumption | first | lia | grind [zu_at, zu_atL, zvn]))
    refine zw_zb0 (sf_X5_stopAt 3 v1_5) (fun o_24 ho_24 => ?_)
    obtain ⟨o_24_0, o_24_1, o_24_2⟩ := o_24
    try dsimp only at ho_24
    obtain ⟨ho_24_0, ho_24_1, ho_24_2⟩ := ho_24
    refine zw_some ?_
    first | exact True.intro | ((try dsimp only); first | with_reducible assumption | grind [zu_at, zu_atL, zvn] | ((repeat' apply And.intro) <;> first | with_reducible assumption | first | lia | grind [zu_at, zu_atL, zvn]))
  refine zw_zb0 (sf_X5_stopAt 3 v1_5) (fun o_11 ho_11 => ?_)
  obtain ⟨o_11_0, o_11_1, o_11_2⟩ := o_11
  try dsimp only at ho_11
  obtain ⟨ho_11_0, ho_11_1, ho_11_2⟩ := ho_11
  refine zw_some ?_
  first | exact True.intro | ((try dsimp only); first | with_reducible assumption | grind [zu_at, zu_atL, zvn] | ((repeat' apply And.intro) <;> first | with_reducible assumption | first | lia | grind [zu_at, zu_atL, zvn]))
set_option maxHeartbeats 4000000 in
set_option maxRecDepth 100000 in
theorem sf_X10_isOwn (p1 : Int32) (v0_4 : Int32) (v0_7 : Int32) (h_v0_4 : 0 ≤ v0_4 ∧ v0_4 ≤ 5) (h_v0_7 : (-1) ≤ v0_7 ∧ v0_7 ≤ 12) : zw (fn_X10_isOwn p1 v0_4 v0_7) (fun r => 0 ≤ r ∧ r ≤ 1 ∧ r ≤ v0_4 ∧ (r = 1 → (-1) ≤ p1 ∧ p1 ≤ 12 ∧ 1 ≤ v0_4 ∧ v0_4 ≤ 1 ∧ p1 ≤ v0_7 ∧ v0_4 ≤ r ∧ v0_7 ≤ p1) ∧ (¬ r = 1 → r ≤ 0) ∧ (r = 0 → r ≤ v0_7 + 1) ∧ (¬ r = 0 → (-1) ≤ p1 ∧ 1 ≤ r ∧ p1 ≤ 12 ∧ v0_4 ≤ 1 ∧ p1 ≤ v0_7 ∧ v0_7 ≤ p1)) := by
  unfold fn_X10_isOwn
  refine zw_if (fun c1 => ?_) (fun c1 => ?_)
  · refine zw_if (fun c2 => ?_) (fun c2 => ?_)
    · refine zw_some ?_
      first | exact True.intro | ((try dsimp only); first | with_reducible assumption | grind [zu_at, zu_atL, zvn] | ((repeat' apply And.intro) <;> first | with_reducible assumption | first | lia | grind [zu_at, zu_atL, zvn]))
    refine zw_some ?_
    first | exact True.intro | ((try dsimp only); first | with_reducible assumption | grind [zu_at, zu_atL, zvn] | ((repeat' apply And.intro) <;> first | with_reducible assumption | first | lia | grind [zu_at, zu_atL, zvn]))
  refine zw_some ?_
  first | exact True.intro | ((try dsimp only); first | with_reducible assumption | grind [zu_at, zu_atL, zvn] | ((repeat' apply And.intro) <;> first | with_reducible assumption | first | lia | grind [zu_at, zu_atL, zvn]))
set_option maxHeartbeats 4000000 in
set_option maxRecDepth 100000 in
theorem sf_X5_readOwn (p1 : Int32) (v0_2 : Int32) (v0_3 : Int32) (v1_2 : Int32) (v1_3 : Int32) (v1_4 : Int32) (v1_5 : Int32) (v1_6 : Int32) (v1_7 : Int32) (f2 : Nat → Int32) (f3 : Nat → Int32) (h_v1_2 : 0 ≤ v1_2 ∧ v1_2 ≤ 1200) (h_v1_3 : 0 ≤ v1_3 ∧ v1_3 ≤ 1200) (h_v1_4 : 0 ≤ v1_4 ∧ v1_4 ≤ 5) (h_v1_5 : 0 ≤ v1_5 ∧ v1_5 ≤ 1200) (h_v1_7 : (-1) ≤ v1_7 ∧ v1_7 ≤ 12) : zw (fn_X5_readOwn p1 v0_2 v0_3 v1_2 v1_3 v1_4 v1_5 v1_6 v1_7 f2 f3) (fun r => 0 ≤ r.1 ∧ r.1 ≤ 1 ∧ 0 ≤ r.2.2.2.1 ∧ r.2.2.2.1 ≤ 1200 ∧ 0 ≤ r.2.2.2.2.1 ∧ r.2.2.2.2.1 ≤ 5 ∧ 0 ≤ r.2.2.2.2.2.1 ∧ r.2.2.2.2.2.1 ≤ 1200 ∧ (-1) ≤ r.2.2.2.2.2.2.2 ∧ r.2.2.2.2.2.2.2 ≤ 12) := by
  unfold fn_X5_readOwn
  refine zw_zb0 (sf_X10_isOwn p1 v1_4 v1_7 (by first | with_reducible assumption | exact ⟨by with_reducible assumption, by with_reducible assumption⟩ | first | lia | grind [zu_at, zu_atL, zvn]) (by first | with_reducible assumption | exact ⟨by with_reducible assumption, by with_reducible assumption⟩ | first | lia | grind [zu_at, zu_atL, zvn])) (fun o_1 ho_1 => ?_)
  obtain ⟨ho_1_0, ho_1_1, ho_1_2, ho_1_3, ho_1_4, ho_1_5, ho_1_6⟩ := ho_1
  refine zw_if (fun c1 => ?_) (fun c1 => ?_)
  · refine zw_zb0 (sf_X5_stopAt 1 v1_5) (fun o_10 ho_10 => ?_)
    obtain ⟨o_10_0, o_10_1, o_10_2⟩ := o_10
    try dsimp only at ho_10
    obtain ⟨ho_10_0, ho_10_1, ho_10_2⟩ := ho_10
    refine zw_some ?_
    first | exact True.intro | ((try dsimp only); first | with_reducible assumption | grind [zu_at, zu_atL, zvn] | ((repeat' apply And.intro) <;> first | with_reducible assumption | first | lia | grind [zu_at, zu_atL, zvn]))
  refine zw_zb0 (sf_X10_advance v1_2 v1_3 v1_4 f2 f3 (by first | with_reducible assumption | exact ⟨by with_reducible assumption, by with_reducible assumption⟩ | first | lia | grind [zu_at, zu_atL, zvn]) (by first | with_reducible assumption | exact ⟨by with_reducible assumption, by with_reducible assumption⟩ | first | lia | grind [zu_at, zu_atL, zvn]) (by first | with_reducible assumption | exact ⟨by with_reducible assumption, by with_reducible assumption⟩ | first | lia | grind [zu_at, zu_atL, zvn])) (fun o_6 ho_6 => ?_)
  obtain ⟨o_6_0, o_6_1, o_6_2, o_6_3, o_6_4⟩ := o_6
  try dsimp only at ho_6
  obtain ⟨ho_6_0, ho_6_1, ho_6_2, ho_6_3, ho_6_4, ho_6_5, ho_6_6, ho_6_7⟩ := ho_6
  refine zw_some ?_
  first | exact True.intro | ((try dsimp only); first | with_reducible assumption | grind [zu_at, zu_atL, zvn] | ((repeat' apply And.intro) <;> first | with_reducible assumption | first | lia | grind [zu_at, zu_atL, zvn]))
set_option maxHeartbeats 4000000 in
set_option maxRecDepth 100000 in
theorem sf_X10_isSign (p1 : Int32) (v0_4 : Int32) (v0_6 : Int32) (h_v0_4 : 0 ≤ v0_4 ∧ v0_4 ≤ 5) : zw (fn_X10_isSign p1 v0_4 v0_6) (fun r => 0 ≤ r ∧ r ≤ 1 ∧ r ≤ v0_4 ∧ (r = 1 → 3 ≤ v0_4 ∧ v0_4 ≤ 3 ∧ p1 ≤ v0_6 ∧ v0_6 ≤ p1 ∧ v0_4 ≤ r + 2) ∧ (¬ r = 1 → r ≤ 0) ∧ (¬ r = 0 → 1 ≤ r ∧ 3 ≤ v0_4 ∧ v0_4 ≤ 3 ∧ p1 ≤ v0_6 ∧ v0_6 ≤ p1)) := by
  unfold fn_X10_isSign
  refine zw_if (fun c1 => ?_) (fun c1 => ?_)
  · refine zw_if (fun c2 => ?_) (fun c2 => ?_)
    · refine zw_some ?_
      first | exact True.intro | ((try dsimp only); first | with_reducible assumption | grind [zu_at, zu_atL, zvn] | ((repeat' apply And.intro) <;> first | with_reducible assumption | first | lia | grind [zu_at, zu_atL, zvn]))
    refine zw_some ?_
    first | exact True.intro | ((try dsimp only); first | with_reducible assumption | grind [zu_at, zu_atL, zvn] | ((repeat' apply And.intro) <;> first | with_reducible assumption | first | lia | grind [zu_at, zu_atL, zvn]))
  refine zw_some ?_
  first | exact True.intro | ((try dsimp only); first | with_reducible assumption | grind [zu_at, zu_atL, zvn] | ((repeat' apply And.intro) <;> first | with_reducible assumption | first | lia | grind [zu_at, zu_atL, zvn]))
set_option maxHeartbeats 4000000 in
set_option maxRecDepth 100000 in
theorem sf_X5_readValue (p1 : Int32) (p2 : Int32) (p3 : Int32) (v0_1 : Int32) (v0_2 : Int32) (v0_3 : Int32) (v1_2 : Int32) (v1_3 : Int32) (v1_4 : Int32) (v1_5 : Int32) (v1_6 : Int32) (v1_7 : Int32) (f2 : Nat → Int32) (f3 : Nat → Int32) (h_p1 : 0 ≤ p1 ∧ p1 ≤ 1) (h_v1_2 : 0 ≤ v1_2 ∧ v1_2 ≤ 1200) (h_v1_3 : 0 ≤ v1_3 ∧ v1_3 ≤ 1200) (h_v1_4 : 0 ≤ v1_4 ∧ v1_4 ≤ 5) (h_v1_5 : 0 ≤ v1_5 ∧ v1_5 ≤ 1200) (h_v1_7 : (-1) ≤ v1_7 ∧ v1_7 ≤ 12) : zw (fn_X5_readValue p1 p2 p3 v0_1 v0_2 v0_3 v1_2 v1_3 v1_4 v1_5 v1_6 v1_7 f2 f3) (fun r => 0 ≤ r.1 ∧ r.1 ≤ 1 ∧ 0 ≤ r.2.2.2.2.1 ∧ r.2.2.2.2.1 ≤ 1200 ∧ 0 ≤ r.2.2.2.2.2.1 ∧ r.2.2.2.2.2.1 ≤ 5 ∧ 0 ≤ r.2.2.2.2.2.2.1 ∧ r.2.2.2.2.2.2.1 ≤ 1200 ∧ (-1) ≤ r.2.2.2.2.2.2.2.2 ∧ r.2.2.2.2.2.2.2.2 ≤ 12) := by
  unfold fn_X5_readValue
  refine zw_zj (fun s_1 => 0 ≤ s_1 ∧ s_1 ≤ 1 ∧ s_1 ≤ p1 ∧ s_1 ≤ v1_4) (fun s_1 Hj_1 => ?_) (fun j_1 hj_1 => ?_)
  · obtain ⟨Hj_1_0, Hj_1_1, Hj_1_2, Hj_1_3⟩ := Hj_1
    refine zw_zj (fun s_2 => 0 ≤ s_2.1 ∧ s_2.1 ≤ 1200 ∧ 0 ≤ s_2.2.1 ∧ s_2.2.1 ≤ 5 ∧ 0 ≤ s_2.2.2.1 ∧ s_2.2.2.1 ≤ 1200 ∧ (-1) ≤ s_2.2.2.2.2 ∧ s_2.2.2.2.2 ≤ 12 ∧ s_2.2.1 ≤ v1_4 + 4) (fun s_2 Hj_2 => ?_) (fun j_2 hj_2 => ?_)
    · obtain ⟨s_2_0, s_2_1, s_2_2, s_2_3, s_2_4⟩ := s_2
      try dsimp only at Hj_2
      obtain ⟨Hj_2_0, Hj_2_1, Hj_2_2, Hj_2_3, Hj_2_4, Hj_2_5, Hj_2_6, Hj_2_7, Hj_2_8⟩ := Hj_2
      refine zw_if (fun c1 => ?_) (fun c1 => ?_)
      · refine zw_zj (fun s_4 => True) (fun s_4 Hj_4 => ?_) (fun j_4 hj_4 => ?_)
        · refine zw_if (fun c2 => ?_) (fun c2 => ?_)
          · refine zw_zb0 (sf_X5_stopAt 2 v1_5) (fun o_6 ho_6 => ?_)
            obtain ⟨o_6_0, o_6_1, o_6_2⟩ := o_6
            try dsimp only at ho_6
            obtain ⟨ho_6_0, ho_6_1, ho_6_2⟩ := ho_6
            refine zw_some ?_
            first | exact True.intro | ((try dsimp only); first | with_reducible assumption | grind [zu_at, zu_atL, zvn] | ((repeat' apply And.intro) <;> first | with_reducible assumption | ((try clear hj_1); (try clear hj_2); (try clear hj_4); first | lia | grind [zu_at, zu_atL, zvn])))
          refine zw_if (fun c3 => ?_) (fun c3 => ?_)
          · refine zw_zb0 (sf_X10_advance v1_2 s_2_0 s_2_1 f2 f3 (by first | with_reducible assumption | exact ⟨by with_reducible assumption, by with_reducible assumption⟩ | ((try clear hj_1); (try clear hj_2); (try clear hj_4); first | lia | grind [zu_at, zu_atL, zvn])) (by first | with_reducible assumption | exact ⟨by with_reducible assumption, by with_reducible assumption⟩ | ((try clear hj_1); (try clear hj_2); (try clear hj_4); first | lia | grind [zu_at, zu_atL, zvn])) (by first | with_reducible assumption | exact ⟨by with_reducible assumption, by with_reducible assumption⟩ | ((try clear hj_1); (try clear hj_2); (try clear hj_4); first | lia | grind [zu_at, zu_atL, zvn]))) (fun o_11 ho_11 => ?_)
            obtain ⟨o_11_0, o_11_1, o_11_2, o_11_3, o_11_4⟩ := o_11
            try dsimp only at ho_11
            obtain ⟨ho_11_0, ho_11_1, ho_11_2, ho_11_3, ho_11_4, ho_11_5, ho_11_6, ho_11_7⟩ := ho_11
            refine zw_some ?_
            first | exact True.intro | ((try dsimp only); first | with_reducible assumption | grind [zu_at, zu_atL, zvn] | ((repeat' apply And.intro) <;> first | with_reducible assumption | ((try clear hj_1); (try clear hj_2); (try clear hj_4); first | lia | grind [zu_at, zu_atL, zvn])))
          refine zw_zb0 (sf_X5_stopAt 2 v1_5) (fun o_15 ho_15 => ?_)
          obtain ⟨o_15_0, o_15_1, o_15_2⟩ := o_15
          try dsimp only at ho_15
          obtain ⟨ho_15_0, ho_15_1, ho_15_2⟩ := ho_15
          refine zw_some ?_
          first | exact True.intro | ((try dsimp only); first | with_reducible assumption | grind [zu_at, zu_atL, zvn] | ((repeat' apply And.intro) <;> first | with_reducible assumption | ((try clear hj_1); (try clear hj_2); (try clear hj_4); first | lia | grind [zu_at, zu_atL, zvn])))
        refine zw_if (fun c4 => ?_) (fun c4 => ?_)
        · exact hj_4 _ (by first | exact True.intro | ((try dsimp only); first | with_reducible assumption | grind [zu_at, zu_atL, zvn] | ((repeat' apply And.intro) <;> first | with_reducible assumption | ((try clear hj_1); (try clear hj_2); (try clear hj_4); first | lia | grind [zu_at, zu_atL, zvn]))))
        exact hj_4 _ (by first | exact True.intro | ((try dsimp only); first | with_reducible assumption | grind [zu_at, zu_atL, zvn] | ((repeat' apply And.intro) <;> first | with_reducible assumption | ((try clear hj_1); (try clear hj_2); (try clear hj_4); first | lia | grind [zu_at, zu_atL, zvn]))))
      refine zw_zb0 (sf_X5_stopAt 1 s_2_2) (fun o_20 ho_20 => ?_)
      obtain ⟨o_20_0, o_20_1, o_20_2⟩ := o_20
      try dsimp only at ho_20
      obtain ⟨ho_20_0, ho_20_1, ho_20_2⟩ := ho_20
      refine zw_some ?_
      first | exact True.intro | ((try dsimp only); first | with_reducible assumption | grind [zu_at, zu_atL, zvn] | ((repeat' apply And.intro) <;> first | with_reducible assumption | ((try clear hj_1); (try clear hj_2); (try clear hj_4); first | lia | grind [zu_at, zu_atL, zvn])))
    refine zw_if (fun c5 => ?_) (fun c5 => ?_)
    · exact hj_2 _ (by first | exact True.intro | ((try dsimp only); first | with_reducible assumption | grind [zu_at, zu_atL, zvn] | ((repeat' apply And.intro) <;> first | with_reducible assumption | ((try clear hj_1); (try clear hj_2); (try clear hj_4); first | lia | grind [zu_at, zu_atL, zvn]))))
    refine zw_zb0 (sf_X10_advance v1_2 v1_3 v1_4 f2 f3 (by first | with_reducible assumption | exact ⟨by with_reducible assumption, by with_reducible assumption⟩ | ((try clear hj_1); (try clear hj_2); (try clear hj_4); first | lia | grind [zu_at, zu_atL, zvn])) (by first | with_reducible assumption | exact ⟨by with_reducible assumption, by with_reducible assumption⟩ | ((try clear hj_1); (try clear hj_2); (try clear hj_4); first | lia | grind [zu_at, zu_atL, zvn])) (by first | with_reducible assumption | exact ⟨by with_reducible assumption, by with_reducible assumption⟩ | ((try clear hj_1); (try clear hj_2); (try clear hj_4); first | lia | grind [zu_at, zu_atL, zvn]))) (fun o_25 ho_25 => ?_)
    obtain ⟨o_25_0, o_25_1, o_25_2, o_25_3, o_25_4⟩ := o_25
    try dsimp only at ho_25
    obtain ⟨ho_25_0, ho_25_1, ho_25_2, ho_25_3, ho_25_4, ho_25_5, ho_25_6, ho_25_7⟩ := ho_25
    exact hj_2 _ (by first | exact True.intro | ((try dsimp only); first | with_reducible assumption | grind [zu_at, zu_atL, zvn] | ((repeat' apply And.intro) <;> first | with_reducible assumption | ((try clear hj_1); (try clear hj_2); (try clear hj_4); first | lia | grind [zu_at, zu_atL, zvn]))))
  refine zw_zj (fun _ => True) (fun s_29 Hj_29 => ?_) (fun j_29 hj_29 => ?_)
  · exact hj_1 _ (by first | exact True.intro | ((try dsimp only); first | with_reducible assumption | grind [zu_at, zu_atL, zvn] | ((repeat' apply And.intro) <;> first | with_reducible assumption | ((try clear hj_1); (try clear hj_2); (try clear hj_4); (try clear hj_29); first | lia | grind [zu_at, zu_atL, zvn]))))
  refine zw_if (fun c6 => ?_) (fun c6 => ?_)
  · exact hj_29 _ (by first | exact True.intro | ((try dsimp only); first | with_reducible assumption | grind [zu_at, zu_atL, zvn] | ((repeat' apply And.intro) <;> first | with_reducible assumption | ((try clear hj_1); (try clear hj_2); (try clear hj_4); (try clear hj_29); first | lia | grind [zu_at, zu_atL, zvn]))))
  refine zw_zb0 (sf_X10_isSign 45 v1_4 v1_6 (by first | with_reducible assumption | exact ⟨by with_reducible assumption, by with_reducible assumption⟩ | ((try clear hj_1); (try clear hj_2); (try clear hj_4); (try clear hj_29); first | lia | grind [zu_at, zu_atL, zvn]))) (fun o_31 ho_31 => ?_)
  obtain ⟨ho_31_0, ho_31_1, ho_31_2, ho_31_3, ho_31_4, ho_31_5⟩ := ho_31
  refine zw_if (fun c7 => ?_) (fun c7 => ?_)
  · exact hj_29 _ (by first | exact True.intro | ((try dsimp only); first | with_reducible assumption | grind [zu_at, zu_atL, zvn] | ((repeat' apply And.intro) <;> first | with_reducible assumption | ((try clear hj_1); (try clear hj_2); (try clear hj_4); (try clear hj_29); first | lia | grind [zu_at, zu_atL, zvn]))))
  exact hj_1 _ (by first | exact True.intro | ((try dsimp only); first | with_reducible assumption | grind [zu_at, zu_atL, zvn] | ((repeat' apply And.intro) <;> first | with_reducible assumption | ((try clear hj_1); (try clear hj_2); (try clear hj_4); (try clear hj_29); first | lia | grind [zu_at, zu_atL, zvn]))))
set_option maxHeartbeats 4000000 in
set_option maxRecDepth 100000 in
theorem sf_X9_addFormat (p1 : Int32) (p2 : Int32) (p3 : Int32) (p4 : Int32) (v0_0 : Int32) (f1 : Nat → Int32) (f2 : Nat → Int32) (f3 : Nat → Int32) (f4 : Nat → Int32) (h_v0_0 : 0 ≤ v0_0 ∧ v0_0 ≤ 4) : zw (fn_X9_addFormat p1 p2 p3 p4 v0_0 f1 f2 f3 f4) (fun r => 0 ≤ r.1 ∧ r.1 ≤ 4 ∧ 1 ≤ r.1) := by
  unfold fn_X9_addFormat
  refine zw_if (fun c1 => ?_) (fun c1 => ?_)
  · refine zw_some ?_
    first | exact True.intro | ((try dsimp only); first | with_reducible assumption | grind [zu_at, zu_atL, zvn] | ((repeat' apply And.intro) <;> first | with_reducible assumption | first | lia | grind [zu_at, zu_atL, zvn]))
  refine zw_zg32 4 (by decide) (by (try dsimp only); first | lia | grind [zu_at, zu_atL, zvn]) ?_
  refine zw_some ?_
  first | exact True.intro | ((try dsimp only); first | with_reducible assumption | grind [zu_at, zu_atL, zvn] | ((repeat' apply And.intro) <;> first | with_reducible assumption | first | lia | grind [zu_at, zu_atL, zvn]))
set_option maxHeartbeats 4000000 in
set_option maxRecDepth 100000 in
theorem sf_X5_readFormat (v0_1 : Int32) (v0_2 : Int32) (v0_3 : Int32) (v1_2 : Int32) (v1_3 : Int32) (v1_4 : Int32) (v1_5 : Int32) (v1_6 : Int32) (v1_7 : Int32) (v2_0 : Int32) (f3 : Nat → Int32) (v4_0 : Int32) (f5 : Nat → Int32) (f6 : Nat → Int32) (f7 : Nat → Int32) (f8 : Nat → Int32) (f9 : Nat → Int32) (f10 : Nat → Int32) (h_v1_2 : 0 ≤ v1_2 ∧ v1_2 ≤ 1200) (h_v1_3 : 0 ≤ v1_3 ∧ v1_3 ≤ 1200) (h_v1_4 : 0 ≤ v1_4 ∧ v1_4 ≤ 5) (h_v1_5 : 0 ≤ v1_5 ∧ v1_5 ≤ 1200) (h_v1_7 : (-1) ≤ v1_7 ∧ v1_7 ≤ 12) (h_v2_0 : 0 ≤ v2_0 ∧ v2_0 ≤ 4) (h_v4_0 : 0 ≤ v4_0 ∧ v4_0 ≤ 14) : zw (fn_X5_readFormat v0_1 v0_2 v0_3 v1_2 v1_3 v1_4 v1_5 v1_6 v1_7 v2_0 f3 v4_0 f5 f6 f7 f8 f9 f10) (fun r => 0 ≤ r.1 ∧ r.1 ≤ 1 ∧ 0 ≤ r.2.2.2.2.1 ∧ r.2.2.2.2.1 ≤ 1200 ∧ 0 ≤ r.2.2.2.2.2.1 ∧ r.2.2.2.2.2.1 ≤ 5 ∧ 0 ≤ r.2.2.2.2.2.2.1 ∧ r.2.2.2.2.2.2.1 ≤ 1200 ∧ (-1) ≤ r.2.2.2.2.2.2.2.2.1 ∧ r.2.2.2.2.2.2.2.2.1 ≤ 12 ∧ 0 ≤ r.2.2.2.2.2.2.2.2.2.1 ∧ r.2.2.2.2.2.2.2.2.2.1 ≤ 4) := by
  unfold fn_X5_readFormat
  refine zw_zb0 (sf_X5_readNewName v0_1 v0_2 v0_3 v1_2 v1_3 v1_4 v1_5 v1_6 v1_7 v2_0 f3 v4_0 f5 f6 f7 (by first | with_reducible assumption | exact ⟨by with_reducible assumption, by with_reducible assumption⟩ | first | lia | grind [zu_at, zu_atL, zvn]) (by first | with_reducible assumption | exact ⟨by with_reducible assumption, by with_reducible assumption⟩ | first | lia | grind [zu_at, zu_atL, zvn]) (by first | with_reducible assumption | exact ⟨by with_reducible assumption, by with_reducible assumption⟩ | first | lia | grind [zu_at, zu_atL, zvn]) (by first | with_reducible assumption | exact ⟨by with_reducible assumption, by with_reducible assumption⟩ | first | lia | grind [zu_at, zu_atL, zvn]) (by first | with_reducible assumption | exact ⟨by with_reducible assumption, by with_reducible assumption⟩ | first | lia | grind [zu_at, zu_atL, zvn]) (by first | with_reducible assumption | exact ⟨by with_reducible assumption, by with_reducible assumption⟩ | first | lia | grind [zu_at, zu_atL, zvn]) (by first | with_reducible assumption | exact ⟨by with_reducible assumption, by with_reducible assumption⟩ | first | lia | grind [zu_at, zu_atL, zvn])) (fun o_1 ho_1 => ?_)
  obtain ⟨o_1_0, o_1_1, o_1_2, o_1_3, o_1_4, o_1_5, o_1_6, o_1_7, o_1_8⟩ := o_1
  try dsimp only at ho_1
  obtain ⟨ho_1_0, ho_1_1, ho_1_2, ho_1_3, ho_1_4, ho_1_5, ho_1_6, ho_1_7, ho_1_8, ho_1_9⟩ := ho_1
  refine zw_if (fun c1 => ?_) (fun c1 => ?_)
  · refine zw_some ?_
    first | exact True.intro | ((try dsimp only); first | with_reducible assumption | grind [zu_at, zu_atL, zvn] | ((repeat' apply And.intro) <;> first | with_reducible assumption | first | lia | grind [zu_at, zu_atL, zvn]))
  refine zw_zb0 (sf_X5_readOwn 1 o_1_2 o_1_3 v1_2 o_1_4 o_1_5 o_1_6 o_1_7 o_1_8 f6 f7 (by first | with_reducible assumption | exact ⟨by with_reducible assumption, by with_reducible assumption⟩ | first | lia | grind [zu_at, zu_atL, zvn]) (by first | with_reducible assumption | exact ⟨by with_reducible assumption, by with_reducible assumption⟩ | first | lia | grind [zu_at, zu_atL, zvn]) (by first | with_reducible assumption | exact ⟨by with_reducible assumption, by with_reducible assumption⟩ | first | lia | grind [zu_at, zu_atL, zvn]) (by first | with_reducible assumption | exact ⟨by with_reducible assumption, by with_reducible assumption⟩ | first | lia | grind [zu_at, zu_atL, zvn]) (by first | with_reducible assumption | exact ⟨by with_reducible assumption, by with_reducible assumption⟩ | first | lia | grind [zu_at, zu_atL, zvn])) (fun o_6 ho_6 => ?_)
  obtain ⟨o_6_0, o_6_1, o_6_2, o_6_3, o_6_4, o_6_5, o_6_6, o_6_7⟩ := o_6
  try dsimp only at ho_6
  obtain ⟨ho_6_0, ho_6_1, ho_6_2, ho_6_3, ho_6_4, ho_6_5, ho_6_6, ho_6_7, ho_6_8, ho_6_9⟩ := ho_6
  refine zw_if (fun c2 => ?_) (fun c2 => ?_)
  · refine zw_some ?_
    first | exact True.intro | ((try dsimp only); first | with_reducible assumption | grind [zu_at, zu_atL, zvn] | ((repeat' apply And.intro) <;> first | with_reducible assumption | first | lia | grind [zu_at, zu_atL, zvn]))
  refine zw_zb0 (sf_X5_readValue 0 1 1000000 o_1_1 o_6_1 o_6_2 v1_2 o_6_3 o_6_4 o_6_5 o_6_6 o_6_7 f6 f7 (by first | with_reducible assumption | exact ⟨by with_reducible assumption, by with_reducible assumption⟩ | first | lia | grind [zu_at, zu_atL, zvn]) (by first | with_reducible assumption | exact ⟨by with_reducible assumption, by with_reducible assumption⟩ | first | lia | grind [zu_at, zu_atL, zvn]) (by first | with_reducible assumption | exact ⟨by with_reducible assumption, by with_reducible assumption⟩ | first | lia | grind [zu_at, zu_atL, zvn]) (by first | with_reducible assumption | exact ⟨by with_reducible assumption, by with_reducible assumption⟩ | first | lia | grind [zu_at, zu_atL, zvn]) (by first | with_reducible assumption | exact ⟨by with_reducible assumption, by with_reducible assumption⟩ | first | lia | grind [zu_at, zu_atL, zvn]) (by first | with_reducible assumption | exact ⟨by with_reducible assumption, by with_reducible assumption⟩ | first | lia | grind [zu_at, zu_atL, zvn])) (fun o_11 ho_11 => ?_)
  obtain ⟨o_11_0, o_11_1, o_11_2, o_11_3, o_11_4, o_11_5, o_11_6, o_11_7, o_11_8⟩ := o_11
  try dsimp only at ho_11
  obtain ⟨ho_11_0, ho_11_1, ho_11_2, ho_11_3, ho_11_4, ho_11_5, ho_11_6, ho_11_7, ho_11_8, ho_11_9⟩ := ho_11
  refine zw_if (fun c3 => ?_) (fun c3 => ?_)
  · refine zw_some ?_
    first | exact True.intro | ((try dsimp only); first | with_reducible assumption | grind [zu_at, zu_atL, zvn] | ((repeat' apply And.intro) <;> first | with_reducible assumption | first | lia | grind [zu_at, zu_atL, zvn]))
  refine zw_zb0 (sf_X5_readOwn 2 o_11_2 o_11_3 v1_2 o_11_4 o_11_5 o_11_6 o_11_7 o_11_8 f6 f7 (by first | with_reducible assumption | exact ⟨by with_reducible assumption, by with_reducible assumption⟩ | first | lia | grind [zu_at, zu_atL, zvn]) (by first | with_reducible assumption | exact ⟨by with_reducible assumption, by with_reducible assumption⟩ | first | lia | grind [zu_at, zu_atL, zvn]) (by first | with_reducible assumption | exact ⟨by with_reducible assumption, by with_reducible assumption⟩ | first | lia | grind [zu_at, zu_atL, zvn]) (by first | with_reducible assumption | exact ⟨by with_reducible assumption, by with_reducible assumption⟩ | first | lia | grind [zu_at, zu_atL, zvn]) (by first | with_reducible assumption | exact ⟨by with_reducible assumption, by with_reducible assumption⟩ | first | lia | grind [zu_at, zu_atL, zvn])) (fun o_16 ho_16 => ?_)
  obtain ⟨o_16_0, o_16_1, o_16_2, o_16_3, o_16_4, o_16_5, o_16_6, o_16_7⟩ := o_16
  try dsimp only at ho_16
  obtain ⟨ho_16_0, ho_16_1, ho_16_2, ho_16_3, ho_16_4, ho_16_5, ho_16_6, ho_16_7, ho_16_8, ho_16_9⟩ := ho_16
  refine zw_if (fun c4 => ?_) (fun c4 => ?_)
  · refine zw_some ?_
    first | exact True.intro | ((try dsimp only); first | with_reducible assumption | grind [zu_at, zu_atL, zvn] | ((repeat' apply And.intro) <;> first | with_reducible assumption | first | lia | grind [zu_at, zu_atL, zvn]))
  refine zw_zb0 (sf_X5_readValue 0 1 1000000000 o_11_1 o_16_1 o_16_2 v1_2 o_16_3 o_16_4 o_16_5 o_16_6 o_16_7 f6 f7 (by first | with_reducible assumption | exact ⟨by with_reducible assumption, by with_reducible assumption⟩ | first | lia | grind [zu_at, zu_atL, zvn]) (by first | with_reducible assumption | exact ⟨by with_reducible assumption, by with_reducible assumption⟩ | first | lia | grind [zu_at, zu_atL, zvn]) (by first | with_reducible assumption | exact ⟨by with_reducible assumption, by with_reducible assumption⟩ | first | lia | grind [zu_at, zu_atL, zvn]) (by first | with_reducible assumption | exact ⟨by with_reducible assumption, by with_reducible assumption⟩ | first | lia | grind [zu_at, zu_atL, zvn]) (by first | with_reducible assumption | exact ⟨by with_reducible assumption, by with_reducible assumption⟩ | first | lia | grind [zu_at, zu_atL, zvn]) (by first | with_reducible assumption | exact ⟨by with_reducible assumption, by with_reducible assumption⟩ | first | lia | grind [zu_at, zu_atL, zvn])) (fun o_21 ho_21 => ?_)
  obtain ⟨o_21_0, o_21_1, o_21_2, o_21_3, o_21_4, o_21_5, o_21_6, o_21_7, o_21_8⟩ := o_21
  try dsimp only at ho_21
  obtain ⟨ho_21_0, ho_21_1, ho_21_2, ho_21_3, ho_21_4, ho_21_5, ho_21_6, ho_21_7, ho_21_8, ho_21_9⟩ := ho_21
  refine zw_if (fun c5 => ?_) (fun c5 => ?_)
  · refine zw_some ?_
    first | exact True.intro | ((try dsimp only); first | with_reducible assumption | grind [zu_at, zu_atL, zvn] | ((repeat' apply And.intro) <;> first | with_reducible assumption | first | lia | grind [zu_at, zu_atL, zvn]))
  refine zw_zb0 (sf_X5_readOwn 3 o_21_2 o_21_3 v1_2 o_21_4 o_21_5 o_21_6 o_21_7 o_21_8 f6 f7 (by first | with_reducible assumption | exact ⟨by with_reducible assumption, by with_reducible assumption⟩ | first | lia | grind [zu_at, zu_atL, zvn]) (by first | with_reducible assumption | exact ⟨by with_reducible assumption, by with_reducible assumption⟩ | first | lia | grind [zu_at, zu_atL, zvn]) (by first | with_reducible assumption | exact ⟨by with_reducible assumption, by with_reducible assumption⟩ | first | lia | grind [zu_at, zu_atL, zvn]) (by first | with_reducible assumption | exact ⟨by with_reducible assumption, by with_reducible assumption⟩ | first | lia | grind [zu_at, zu_atL, zvn]) (by first | with_reducible assumption | exact ⟨by with_reducible assumption, by with_reducible assumption⟩ | first | lia | grind [zu_at, zu_atL, zvn])) (fun o_26 ho_26 => ?_)
  obtain ⟨o_26_0, o_26_1, o_26_2, o_26_3, o_26_4, o_26_5, o_26_6, o_26_7⟩ := o_26
  try dsimp only at ho_26
  obtain ⟨ho_26_0, ho_26_1, ho_26_2, ho_26_3, ho_26_4, ho_26_5, ho_26_6, ho_26_7, ho_26_8, ho_26_9⟩ := ho_26
  refine zw_if (fun c6 => ?_) (fun c6 => ?_)
  · refine zw_some ?_
    first | exact True.intro | ((try dsimp only); first | with_reducible assumption | grind [zu_at, zu_atL, zvn] | ((repeat' apply And.intro) <;> first | with_reducible assumption | first | lia | grind [zu_at, zu_atL, zvn]))
  refine zw_zb0 (sf_X5_readValue 0 0 999 o_21_1 o_26_1 o_26_2 v1_2 o_26_3 o_26_4 o_26_5 o_26_6 o_26_7 f6 f7 (by first | with_reducible assumption | exact ⟨by with_reducible assumption, by with_reducible assumption⟩ | first | lia | grind [zu_at, zu_atL, zvn]) (by first | with_reducible assumption | exact ⟨by with_reducible assumption, by with_reducible assumption⟩ | first | lia | grind [zu_at, zu_atL, zvn]) (by first | with_reducible assumption | exact ⟨by with_reducible assumption, by with_reducible assumption⟩ | first | lia | grind [zu_at, zu_atL, zvn]) (by first | with_reducible assumption | exact ⟨by with_reducible assumption, by with_reducible assumption⟩ | first | lia | grind [zu_at, zu_atL, zvn]) (by first | with_reducible assumption | exact ⟨by with_reducible assumption, by with_reducible assumption⟩ | first | lia | grind [zu_at, zu_atL, zvn]) (by first | with_reducible assumption | exact ⟨by with_reducible assumption, by with_reducible assumption⟩ | first | lia | grind [zu_at, zu_atL, zvn])) (fun o_31 ho_31 => ?_)
  obtain ⟨o_31_0, o_31_1, o_31_2, o_31_3, o_31_4, o_31_5, o_31_6, o_31_7, o_31_8⟩ := o_31
  try dsimp only at ho_31
  obtain ⟨ho_31_0, ho_31_1, ho_31_2, ho_31_3, ho_31_4, ho_31_5, ho_31_6, ho_31_7, ho_31_8, ho_31_9⟩ := ho_31
  refine zw_if (fun c7 => ?_) (fun c7 => ?_)
  · refine zw_some ?_
    first | exact True.intro | ((try dsimp only); first | with_reducible assumption | grind [zu_at, zu_atL, zvn] | ((repeat' apply And.intro) <;> first | with_reducible assumption | first | lia | grind [zu_at, zu_atL, zvn]))
  refine zw_zb0 (sf_X9_addFormat o_1_1 o_11_1 o_21_1 o_31_1 v2_0 f3 f8 f9 f10 (by first | with_reducible assumption | exact ⟨by with_reducible assumption, by with_reducible assumption⟩ | first | lia | grind [zu_at, zu_atL, zvn])) (fun o_36 ho_36 => ?_)
  obtain ⟨o_36_0, o_36_1, o_36_2, o_36_3, o_36_4⟩ := o_36
  try dsimp only at ho_36
  obtain ⟨ho_36_0, ho_36_1, ho_36_2⟩ := ho_36
  refine zw_some ?_
  first | exact True.intro | ((try dsimp only); first | with_reducible assumption | grind [zu_at, zu_atL, zvn] | ((repeat' apply And.intro) <;> first | with_reducible assumption | first | lia | grind [zu_at, zu_atL, zvn]))
set_option maxHeartbeats 4000000 in
set_option maxRecDepth 100000 in
theorem sf_X5_readKnown (p1 : Int32) (v0_1 : Int32) (v0_2 : Int32) (v0_3 : Int32) (v1_2 : Int32) (v1_3 : Int32) (v1_4 : Int32) (v1_5 : Int32) (v1_6 : Int32) (v1_7 : Int32) (f2 : Nat → Int32) (f3 : Nat → Int32) (h_v1_2 : 0 ≤ v1_2 ∧ v1_2 ≤ 1200) (h_v1_3 : 0 ≤ v1_3 ∧ v1_3 ≤ 1200) (h_v1_4 : 0 ≤ v1_4 ∧ v1_4 ≤ 5) (h_v1_5 : 0 ≤ v1_5 ∧ v1_5 ≤ 1200) (h_v1_7 : (-1) ≤ v1_7 ∧ v1_7 ≤ 12) : zw (fn_X5_readKnown p1 v0_1 v0_2 v0_3 v1_2 v1_3 v1_4 v1_5 v1_6 v1_7 f2 f3) (fun r => 0 ≤ r.1 ∧ r.1 ≤ 1 ∧ 0 ≤ r.2.2.2.2.1 ∧ r.2.2.2.2.1 ≤ 1200 ∧ 0 ≤ r.2.2.2.2.2.1 ∧ r.2.2.2.2.2.1 ≤ 5 ∧ 0 ≤ r.2.2.2.2.2.2.1 ∧ r.2.2.2.2.2.2.1 ≤ 1200 ∧ (-1) ≤ r.2.2.2.2.2.2.2.2 ∧ r.2.2.2.2.2.2.2.2 ≤ 12) := by
  unfold fn_X5_readKnown
  refine zw_zb0 (sf_X10_isName v1_4 v1_7 (by first | with_reducible assumption | exact ⟨by with_reducible assumption, by with_reducible assumption⟩ | first | lia | grind [zu_at, zu_atL, zvn]) (by first | with_reducible assumption | exact ⟨by with_reducible assumption, by with_reducible assumption⟩ | first | lia | grind [zu_at, zu_atL, zvn])) (fun o_1 ho_1 => ?_)
  obtain ⟨ho_1_0, ho_1_1, ho_1_2, ho_1_3, ho_1_4, ho_1_5, ho_1_6⟩ := ho_1
  refine zw_if (fun c1 => ?_) (fun c1 => ?_)
  · refine zw_zb0 (sf_X5_stopAt 1 v1_5) (fun o_15 ho_15 => ?_)
    obtain ⟨o_15_0, o_15_1, o_15_2⟩ := o_15
    try dsimp only at ho_15
    obtain ⟨ho_15_0, ho_15_1, ho_15_2⟩ := ho_15
    refine zw_some ?_
    first | exact True.intro | ((try dsimp only); first | with_reducible assumption | grind [zu_at, zu_atL, zvn] | ((repeat' apply And.intro) <;> first | with_reducible assumption | first | lia | grind [zu_at, zu_atL, zvn]))
  refine zw_if (fun c2 => ?_) (fun c2 => ?_)
  · refine zw_zb0 (sf_X5_stopAt 3 v1_5) (fun o_11 ho_11 => ?_)
    obtain ⟨o_11_0, o_11_1, o_11_2⟩ := o_11
    try dsimp only at ho_11
    obtain ⟨ho_11_0, ho_11_1, ho_11_2⟩ := ho_11
    refine zw_some ?_
    first | exact True.intro | ((try dsimp only); first | with_reducible assumption | grind [zu_at, zu_atL, zvn] | ((repeat' apply And.intro) <;> first | with_reducible assumption | first | lia | grind [zu_at, zu_atL, zvn]))
  refine zw_zb0 (sf_X10_advance v1_2 v1_3 v1_4 f2 f3 (by first | with_reducible assumption | exact ⟨by with_reducible assumption, by with_reducible assumption⟩ | first | lia | grind [zu_at, zu_atL, zvn]) (by first | with_reducible assumption | exact ⟨by with_reducible assumption, by with_reducible assumption⟩ | first | lia | grind [zu_at, zu_atL, zvn]) (by first | with_reducible assumption | exact ⟨by with_reducible assumption, by with_reducible assumption⟩ | first | lia | grind [zu_at, zu_atL, zvn])) (fun o_7 ho_7 => ?_)
  obtain ⟨o_7_0, o_7_1, o_7_2, o_7_3, o_7_4⟩ := o_7
  try dsimp only at ho_7
  obtain ⟨ho_7_0, ho_7_1, ho_7_2, ho_7_3, ho_7_4, ho_7_5, ho_7_6, ho_7_7⟩ := ho_7
  refine zw_some ?_
  first | exact True.intro | ((try dsimp only); first | with_reducible assumption | grind [zu_at, zu_atL, zvn] | ((repeat' apply And.intro) <;> first | with_reducible assumption | first | lia | grind [zu_at, zu_atL, zvn]))
set_option maxHeartbeats 4000000 in
set_option maxRecDepth 100000 in
theorem sf_X5_readAnswer (v0_1 : Int32) (v0_2 : Int32) (v0_3 : Int32) (v2_2 : Int32) (v2_3 : Int32) (v2_4 : Int32) (v2_5 : Int32) (v2_6 : Int32) (v2_7 : Int32) (v3_0 : Int32) (f4 : Nat → Int32) (f5 : Nat → Int32) (f6 : Nat → Int32) (f7 : Nat → Int32) (h_v2_2 : 0 ≤ v2_2 ∧ v2_2 ≤ 1200) (h_v2_3 : 0 ≤ v2_3 ∧ v2_3 ≤ 1200) (h_v2_4 : 0 ≤ v2_4 ∧ v2_4 ≤ 5) (h_v2_5 : 0 ≤ v2_5 ∧ v2_5 ≤ 1200) (h_v2_7 : (-1) ≤ v2_7 ∧ v2_7 ≤ 12) (h_v3_0 : 0 ≤ v3_0 ∧ v3_0 ≤ 14) : zw (fn_X5_readAnswer v0_1 v0_2 v0_3 v2_2 v2_3 v2_4 v2_5 v2_6 v2_7 v3_0 f4 f5 f6 f7) (fun r => 0 ≤ r.1 ∧ r.1 ≤ 1 ∧ 0 ≤ r.2.2.2.2.1 ∧ r.2.2.2.2.1 ≤ 1200 ∧ 0 ≤ r.2.2.2.2.2.1 ∧ r.2.2.2.2.2.1 ≤ 5 ∧ 0 ≤ r.2.2.2.2.2.2.1 ∧ r.2.2.2.2.2.2.1 ≤ 1200 ∧ (-1) ≤ r.2.2.2.2.2.2.2.2.1 ∧ r.2.2.2.2.2.2.2.2.1 ≤ 12) := by
  unfold fn_X5_readAnswer
  refine zw_zb0 (sf_X4_find v2_6 v3_0 f4 (by first | with_reducible assumption | exact ⟨by with_reducible assumption, by with_reducible assumption⟩ | first | lia | grind [zu_at, zu_atL, zvn])) (fun o_1 ho_1 => ?_)
  obtain ⟨ho_1_0, ho_1_1⟩ := ho_1
  refine zw_zb0 (sf_X5_readKnown o_1 v0_1 v0_2 v0_3 v2_2 v2_3 v2_4 v2_5 v2_6 v2_7 f5 f6 (by first | with_reducible assumption | exact ⟨by with_reducible assumption, by with_reducible assumption⟩ | first | lia | grind [zu_at, zu_atL, zvn]) (by first | with_reducible assumption | exact ⟨by with_reducible assumption, by with_reducible assumption⟩ | first | lia | grind [zu_at, zu_atL, zvn]) (by first | with_reducible assumption | exact ⟨by with_reducible assumption, by with_reducible assumption⟩ | first | lia | grind [zu_at, zu_atL, zvn]) (by first | with_reducible assumption | exact ⟨by with_reducible assumption, by with_reducible assumption⟩ | first | lia | grind [zu_at, zu_atL, zvn]) (by first | with_reducible assumption | exact ⟨by with_reducible assumption, by with_reducible assumption⟩ | first | lia | grind [zu_at, zu_atL, zvn])) (fun o_5 ho_5 => ?_)
  obtain ⟨o_5_0, o_5_1, o_5_2, o_5_3, o_5_4, o_5_5, o_5_6, o_5_7, o_5_8⟩ := o_5
  try dsimp only at ho_5
  obtain ⟨ho_5_0, ho_5_1, ho_5_2, ho_5_3, ho_5_4, ho_5_5, ho_5_6, ho_5_7, ho_5_8, ho_5_9⟩ := ho_5
  refine zw_if (fun c1 => ?_) (fun c1 => ?_)
  · refine zw_some ?_
    first | exact True.intro | ((try dsimp only); first | with_reducible assumption | grind [zu_at, zu_atL, zvn] | ((repeat' apply And.intro) <;> first | with_reducible assumption | first | lia | grind [zu_at, zu_atL, zvn]))
  refine zw_zb0 (sf_X5_readOwn 12 o_5_2 o_5_3 v2_2 o_5_4 o_5_5 o_5_6 o_5_7 o_5_8 f5 f6 (by first | with_reducible assumption | exact ⟨by with_reducible assumption, by with_reducible assumption⟩ | first | lia | grind [zu_at, zu_atL, zvn]) (by first | with_reducible assumption | exact ⟨by with_reducible assumption, by with_reducible assumption⟩ | first | lia | grind [zu_at, zu_atL, zvn]) (by first | with_reducible assumption | exact ⟨by with_reducible assumption, by with_reducible assumption⟩ | first | lia | grind [zu_at, zu_atL, zvn]) (by first | with_reducible assumption | exact ⟨by with_reducible assumption, by with_reducible assumption⟩ | first | lia | grind [zu_at, zu_atL, zvn]) (by first | with_reducible assumption | exact ⟨by with_reducible assumption, by with_reducible assumption⟩ | first | lia | grind [zu_at, zu_atL, zvn])) (fun o_10 ho_10 => ?_)
  obtain ⟨o_10_0, o_10_1, o_10_2, o_10_3, o_10_4, o_10_5, o_10_6, o_10_7⟩ := o_10
  try dsimp only at ho_10
  obtain ⟨ho_10_0, ho_10_1, ho_10_2, ho_10_3, ho_10_4, ho_10_5, ho_10_6, ho_10_7, ho_10_8, ho_10_9⟩ := ho_10
  refine zw_if (fun c2 => ?_) (fun c2 => ?_)
  · refine zw_some ?_
    first | exact True.intro | ((try dsimp only); first | with_reducible assumption | grind [zu_at, zu_atL, zvn] | ((repeat' apply And.intro) <;> first | with_reducible assumption | first | lia | grind [zu_at, zu_atL, zvn]))
  refine zw_zb0 (sf_X5_readValue 0 0 1000000 o_5_1 o_10_1 o_10_2 v2_2 o_10_3 o_10_4 o_10_5 o_10_6 o_10_7 f5 f6 (by first | with_reducible assumption | exact ⟨by with_reducible assumption, by with_reducible assumption⟩ | first | lia | grind [zu_at, zu_atL, zvn]) (by first | with_reducible assumption | exact ⟨by with_reducible assumption, by with_reducible assumption⟩ | first | lia | grind [zu_at, zu_atL, zvn]) (by first | with_reducible assumption | exact ⟨by with_reducible assumption, by with_reducible assumption⟩ | first | lia | grind [zu_at, zu_atL, zvn]) (by first | with_reducible assumption | exact ⟨by with_reducible assumption, by with_reducible assumption⟩ | first | lia | grind [zu_at, zu_atL, zvn]) (by first | with_reducible assumption | exact ⟨by with_reducible assumption, by with_reducible assumption⟩ | first | lia | grind [zu_at, zu_atL, zvn]) (by first | with_reducible assumption | exact ⟨by with_reducible assumption, by with_reducible assumption⟩ | first | lia | grind [zu_at, zu_atL, zvn])) (fun o_15 ho_15 => ?_)
  obtain ⟨o_15_0, o_15_1, o_15_2, o_15_3, o_15_4, o_15_5, o_15_6, o_15_7, o_15_8⟩ := o_15
  try dsimp only at ho_15
  obtain ⟨ho_15_0, ho_15_1, ho_15_2, ho_15_3, ho_15_4, ho_15_5, ho_15_6, ho_15_7, ho_15_8, ho_15_9⟩ := ho_15
  refine zw_if (fun c3 => ?_) (fun c3 => ?_)
  · refine zw_some ?_
    first | exact True.intro | ((try dsimp only); first | with_reducible assumption | grind [zu_at, zu_atL, zvn] | ((repeat' apply And.intro) <;> first | with_reducible assumption | first | lia | grind [zu_at, zu_atL, zvn]))
  refine zw_zb0 (sf_X4_allow o_5_1 o_15_1 v3_0 f7 (by first | with_reducible assumption | exact ⟨by with_reducible assumption, by with_reducible assumption⟩ | first | lia | grind [zu_at, zu_atL, zvn])) (fun o_20 ho_20 => ?_)
  refine zw_some ?_
  first | exact True.intro | ((try dsimp only); first | with_reducible assumption | grind [zu_at, zu_atL, zvn] | ((repeat' apply And.intro) <;> first | with_reducible assumption | first | lia | grind [zu_at, zu_atL, zvn]))
set_option maxHeartbeats 4000000 in
set_option maxRecDepth 100000 in
theorem sf_X5_readCast (v0_1 : Int32) (v0_2 : Int32) (v0_3 : Int32) (v1_2 : Int32) (v1_3 : Int32) (v1_4 : Int32) (v1_5 : Int32) (v1_6 : Int32) (v1_7 : Int32) (f2 : Nat → Int32) (f3 : Nat → Int32) (v4_5 : Int32) (h_v1_2 : 0 ≤ v1_2 ∧ v1_2 ≤ 1200) (h_v1_3 : 0 ≤ v1_3 ∧ v1_3 ≤ 1200) (h_v1_4 : 0 ≤ v1_4 ∧ v1_4 ≤ 5) (h_v1_5 : 0 ≤ v1_5 ∧ v1_5 ≤ 1200) (h_v1_7 : (-1) ≤ v1_7 ∧ v1_7 ≤ 12) : zw (fn_X5_readCast v0_1 v0_2 v0_3 v1_2 v1_3 v1_4 v1_5 v1_6 v1_7 f2 f3 v4_5) (fun r => 0 ≤ r.1 ∧ r.1 ≤ 1 ∧ 0 ≤ r.2.2.2.2.1 ∧ r.2.2.2.2.1 ≤ 1200 ∧ 0 ≤ r.2.2.2.2.2.1 ∧ r.2.2.2.2.2.1 ≤ 5 ∧ 0 ≤ r.2.2.2.2.2.2.1 ∧ r.2.2.2.2.2.2.1 ≤ 1200 ∧ (-1) ≤ r.2.2.2.2.2.2.2.2.1 ∧ r.2.2.2.2.2.2.2.2.1 ≤ 12) := by
  unfold fn_X5_readCast
  refine zw_zb0 (sf_X5_readValue 0 0 999 v0_1 v0_2 v0_3 v1_2 v1_3 v1_4 v1_5 v1_6 v1_7 f2 f3 (by first | with_reducible assumption | exact ⟨by with_reducible assumption, by with_reducible assumption⟩ | first | lia | grind [zu_at, zu_atL, zvn]) (by first | with_reducible assumption | exact ⟨by with_reducible assumption, by with_reducible assumption⟩ | first | lia | grind [zu_at, zu_atL, zvn]) (by first | with_reducible assumption | exact ⟨by with_reducible assumption, by with_reducible assumption⟩ | first | lia | grind [zu_at, zu_atL, zvn]) (by first | with_reducible assumption | exact ⟨by with_reducible assumption, by with_reducible assumption⟩ | first | lia | grind [zu_at, zu_atL, zvn]) (by first | with_reducible assumption | exact ⟨by with_reducible assumption, by with_reducible assumption⟩ | first | lia | grind [zu_at, zu_atL, zvn]) (by first | with_reducible assumption | exact ⟨by with_reducible assumption, by with_reducible assumption⟩ | first | lia | grind [zu_at, zu_atL, zvn])) (fun o_1 ho_1 => ?_)
  obtain ⟨o_1_0, o_1_1, o_1_2, o_1_3, o_1_4, o_1_5, o_1_6, o_1_7, o_1_8⟩ := o_1
  try dsimp only at ho_1
  obtain ⟨ho_1_0, ho_1_1, ho_1_2, ho_1_3, ho_1_4, ho_1_5, ho_1_6, ho_1_7, ho_1_8, ho_1_9⟩ := ho_1
  refine zw_if (fun c1 => ?_) (fun c1 => ?_)
  · refine zw_some ?_
    first | exact True.intro | ((try dsimp only); first | with_reducible assumption | grind [zu_at, zu_atL, zvn] | ((repeat' apply And.intro) <;> first | with_reducible assumption | first | lia | grind [zu_at, zu_atL, zvn]))
  refine zw_some ?_
  first | exact True.intro | ((try dsimp only); first | with_reducible assumption | grind [zu_at, zu_atL, zvn] | ((repeat' apply And.intro) <;> first | with_reducible assumption | first | lia | grind [zu_at, zu_atL, zvn]))
set_option maxHeartbeats 4000000 in
set_option maxRecDepth 100000 in
theorem sf_X5_readBox (v0_1 : Int32) (v0_2 : Int32) (v0_3 : Int32) (v1_2 : Int32) (v1_3 : Int32) (v1_4 : Int32) (v1_5 : Int32) (v1_6 : Int32) (v1_7 : Int32) (v2_0 : Int32) (f3 : Nat → Int32) (v4_0 : Int32) (v4_1 : Int32) (f5 : Nat → Int32) (f6 : Nat → Int32) (f7 : Nat → Int32) (f8 : Nat → Int32) (f9 : Nat → Int32) (f10 : Nat → Int32) (f11 : Nat → Int32) (f12 : Nat → Int32) (f13 : Nat → Int32) (f14 : Nat → Int32) (h_v1_2 : 0 ≤ v1_2 ∧ v1_2 ≤ 1200) (h_v1_3 : 0 ≤ v1_3 ∧ v1_3 ≤ 1200) (h_v1_4 : 0 ≤ v1_4 ∧ v1_4 ≤ 5) (h_v1_5 : 0 ≤ v1_5 ∧ v1_5 ≤ 1200) (h_v1_7 : (-1) ≤ v1_7 ∧ v1_7 ≤ 12) (h_v2_0 : 0 ≤ v2_0 ∧ v2_0 ≤ 4) (h_v4_0 : 0 ≤ v4_0 ∧ v4_0 ≤ 14) : zw (fn_X5_readBox v0_1 v0_2 v0_3 v1_2 v1_3 v1_4 v1_5 v1_6 v1_7 v2_0 f3 v4_0 v4_1 f5 f6 f7 f8 f9 f10 f11 f12 f13 f14) (fun r => 0 ≤ r.1 ∧ r.1 ≤ 1 ∧ 0 ≤ r.2.2.2.2.1 ∧ r.2.2.2.2.1 ≤ 1200 ∧ 0 ≤ r.2.2.2.2.2.1 ∧ r.2.2.2.2.2.1 ≤ 5 ∧ 0 ≤ r.2.2.2.2.2.2.1 ∧ r.2.2.2.2.2.2.1 ≤ 1200 ∧ (-1) ≤ r.2.2.2.2.2.2.2.2.1 ∧ r.2.2.2.2.2.2.2.2.1 ≤ 12 ∧ 0 ≤ r.2.2.2.2.2.2.2.2.2.1 ∧ r.2.2.2.2.2.2.2.2.2.1 ≤ 14) := by
  unfold fn_X5_readBox
  refine zw_zb0 (sf_X5_readNewName v0_1 v0_2 v0_3 v1_2 v1_3 v1_4 v1_5 v1_6 v1_7 v2_0 f3 v4_0 f5 f6 f7 (by first | with_reducible assumption | exact ⟨by with_reducible assumption, by with_reducible assumption⟩ | first | lia | grind [zu_at, zu_atL, zvn]) (by first | with_reducible assumption | exact ⟨by with_reducible assumption, by with_reducible assumption⟩ | first | lia | grind [zu_at, zu_atL, zvn]) (by first | with_reducible assumption | exact ⟨by with_reducible assumption, by with_reducible assumption⟩ | first | lia | grind [zu_at, zu_atL, zvn]) (by first | with_reducible assumption | exact ⟨by with_reducible assumption, by with_reducible assumption⟩ | first | lia | grind [zu_at, zu_atL, zvn]) (by first | with_reducible assumption | exact ⟨by with_reducible assumption, by with_reducible assumption⟩ | first | lia | grind [zu_at, zu_atL, zvn]) (by first | with_reducible assumption | exact ⟨by with_reducible assumption, by with_reducible assumption⟩ | first | lia | grind [zu_at, zu_atL, zvn]) (by first | with_reducible assumption | exact ⟨by with_reducible assumption, by with_reducible assumption⟩ | first | lia | grind [zu_at, zu_atL, zvn])) (fun o_1 ho_1 => ?_)
  obtain ⟨o_1_0, o_1_1, o_1_2, o_1_3, o_1_4, o_1_5, o_1_6, o_1_7, o_1_8⟩ := o_1
  try dsimp only at ho_1
  obtain ⟨ho_1_0, ho_1_1, ho_1_2, ho_1_3, ho_1_4, ho_1_5, ho_1_6, ho_1_7, ho_1_8, ho_1_9⟩ := ho_1
  refine zw_if (fun c1 => ?_) (fun c1 => ?_)
  · refine zw_some ?_
    first | exact True.intro | ((try dsimp only); first | with_reducible assumption | grind [zu_at, zu_atL, zvn] | ((repeat' apply And.intro) <;> first | with_reducible assumption | first | lia | grind [zu_at, zu_atL, zvn]))
  refine zw_zb0 (sf_X5_readValue 1 (-10000000) 10000000 o_1_1 o_1_2 o_1_3 v1_2 o_1_4 o_1_5 o_1_6 o_1_7 o_1_8 f6 f7 (by first | with_reducible assumption | exact ⟨by with_reducible assumption, by with_reducible assumption⟩ | first | lia | grind [zu_at, zu_atL, zvn]) (by first | with_reducible assumption | exact ⟨by with_reducible assumption, by with_reducible assumption⟩ | first | lia | grind [zu_at, zu_atL, zvn]) (by first | with_reducible assumption | exact ⟨by with_reducible assumption, by with_reducible assumption⟩ | first | lia | grind [zu_at, zu_atL, zvn]) (by first | with_reducible assumption | exact ⟨by with_reducible assumption, by with_reducible assumption⟩ | first | lia | grind [zu_at, zu_atL, zvn]) (by first | with_reducible assumption | exact ⟨by with_reducible assumption, by with_reducible assumption⟩ | first | lia | grind [zu_at, zu_atL, zvn]) (by first | with_reducible assumption | exact ⟨by with_reducible assumption, by with_reducible assumption⟩ | first | lia | grind [zu_at, zu_atL, zvn])) (fun o_6 ho_6 => ?_)
  obtain ⟨o_6_0, o_6_1, o_6_2, o_6_3, o_6_4, o_6_5, o_6_6, o_6_7, o_6_8⟩ := o_6
  try dsimp only at ho_6
  obtain ⟨ho_6_0, ho_6_1, ho_6_2, ho_6_3, ho_6_4, ho_6_5, ho_6_6, ho_6_7, ho_6_8, ho_6_9⟩ := ho_6
  refine zw_if (fun c2 => ?_) (fun c2 => ?_)
  · refine zw_some ?_
    first | exact True.intro | ((try dsimp only); first | with_reducible assumption | grind [zu_at, zu_atL, zvn] | ((repeat' apply And.intro) <;> first | with_reducible assumption | first | lia | grind [zu_at, zu_atL, zvn]))
  refine zw_zb0 (sf_X5_readValue 1 o_6_1 10000000 o_6_1 o_6_2 o_6_3 v1_2 o_6_4 o_6_5 o_6_6 o_6_7 o_6_8 f6 f7 (by first | with_reducible assumption | exact ⟨by with_reducible assumption, by with_reducible assumption⟩ | first | lia | grind [zu_at, zu_atL, zvn]) (by first | with_reducible assumption | exact ⟨by with_reducible assumption, by with_reducible assumption⟩ | first | lia | grind [zu_at, zu_atL, zvn]) (by first | with_reducible assumption | exact ⟨by with_reducible assumption, by with_reducible assumption⟩ | first | lia | grind [zu_at, zu_atL, zvn]) (by first | with_reducible assumption | exact ⟨by with_reducible assumption, by with_reducible assumption⟩ | first | lia | grind [zu_at, zu_atL, zvn]) (by first | with_reducible assumption | exact ⟨by with_reducible assumption, by with_reducible assumption⟩ | first | lia | grind [zu_at, zu_atL, zvn]) (by first | with_reducible assumption | exact ⟨by with_reducible assumption, by with_reducible assumption⟩ | first | lia | grind [zu_at, zu_atL, zvn])) (fun o_11 ho_11 => ?_)
  obtain ⟨o_11_0, o_11_1, o_11_2, o_11_3, o_11_4, o_11_5, o_11_6, o_11_7, o_11_8⟩ := o_11
  try dsimp only at ho_11
  obtain ⟨ho_11_0, ho_11_1, ho_11_2, ho_11_3, ho_11_4, ho_11_5, ho_11_6, ho_11_7, ho_11_8, ho_11_9⟩ := ho_11
  refine zw_if (fun c3 => ?_) (fun c3 => ?_)
  · refine zw_some ?_
    first | exact True.intro | ((try dsimp only); first | with_reducible assumption | grind [zu_at, zu_atL, zvn] | ((repeat' apply And.intro) <;> first | with_reducible assumption | first | lia | grind [zu_at, zu_atL, zvn]))
  refine zw_zb0 (sf_X4_prepare 0 (-1) o_6_1 v4_0 f8 f9 (by first | with_reducible assumption | exact ⟨by with_reducible assumption, by with_reducible assumption⟩ | first | lia | grind [zu_at, zu_atL, zvn])) (fun o_16 ho_16 => ?_)
  obtain ⟨o_16_0, o_16_1⟩ := o_16
  try dsimp only at ho_16
  refine zw_zb0 (sf_X4_prepare 1 (-1) o_11_1 v4_0 o_16_0 o_16_1 (by first | with_reducible assumption | exact ⟨by with_reducible assumption, by with_reducible assumption⟩ | first | lia | grind [zu_at, zu_atL, zvn])) (fun o_20 ho_20 => ?_)
  obtain ⟨o_20_0, o_20_1⟩ := o_20
  try dsimp only at ho_20
  refine zw_zb0 (sf_X4_add o_1_1 0 v4_0 v4_1 f5 f10 f11 f12 f13 o_20_0 f14 (by first | with_reducible assumption | exact ⟨by with_reducible assumption, by with_reducible assumption⟩ | first | lia | grind [zu_at, zu_atL, zvn])) (fun o_24 ho_24 => ?_)
  obtain ⟨o_24_0, o_24_1, o_24_2, o_24_3, o_24_4, o_24_5, o_24_6, o_24_7⟩ := o_24
  try dsimp only at ho_24
  obtain ⟨ho_24_0, ho_24_1, ho_24_2⟩ := ho_24
  refine zw_some ?_
  first | exact True.intro | ((try dsimp only); first | with_reducible assumption | grind [zu_at, zu_atL, zvn] | ((repeat' apply And.intro) <;> first | with_reducible assumption | first | lia | grind [zu_at, zu_atL, zvn]))
set_option maxHeartbeats 4000000 in
set_option maxRecDepth 100000 in
theorem sf_X5_readSign (p1 : Int32) (v0_2 : Int32) (v0_3 : Int32) (v1_2 : Int32) (v1_3 : Int32) (v1_4 : Int32) (v1_5 : Int32) (v1_6 : Int32) (v1_7 : Int32) (f2 : Nat → Int32) (f3 : Nat → Int32) (h_v1_2 : 0 ≤ v1_2 ∧ v1_2 ≤ 1200) (h_v1_3 : 0 ≤ v1_3 ∧ v1_3 ≤ 1200) (h_v1_4 : 0 ≤ v1_4 ∧ v1_4 ≤ 5) (h_v1_5 : 0 ≤ v1_5 ∧ v1_5 ≤ 1200) (h_v1_7 : (-1) ≤ v1_7 ∧ v1_7 ≤ 12) : zw (fn_X5_readSign p1 v0_2 v0_3 v1_2 v1_3 v1_4 v1_5 v1_6 v1_7 f2 f3) (fun r => 0 ≤ r.1 ∧ r.1 ≤ 1 ∧ 0 ≤ r.2.2.2.1 ∧ r.2.2.2.1 ≤ 1200 ∧ 0 ≤ r.2.2.2.2.1 ∧ r.2.2.2.2.1 ≤ 5 ∧ 0 ≤ r.2.2.2.2.2.1 ∧ r.2.2.2.2.2.1 ≤ 1200 ∧ (-1) ≤ r.2.2.2.2.2.2.2 ∧ r.2.2.2.2.2.2.2 ≤ 12) := by
  unfold fn_X5_readSign
  refine zw_zb0 (sf_X10_isSign p1 v1_4 v1_6 (by first | with_reducible assumption | exact ⟨by with_reducible assumption, by with_reducible assumption⟩ | first | lia | grind [zu_at, zu_atL, zvn])) (fun o_1 ho_1 => ?_)
  obtain ⟨ho_1_0, ho_1_1, ho_1_2, ho_1_3, ho_1_4, ho_1_5⟩ := ho_1
  refine zw_if (fun c1 => ?_) (fun c1 => ?_)
  · refine zw_zb0 (sf_X5_stopAt 1 v1_5) (fun o_10 ho_10 => ?_)
    obtain ⟨o_10_0, o_10_1, o_10_2⟩ := o_10
    try dsimp only at ho_10
    obtain ⟨ho_10_0, ho_10_1, ho_10_2⟩ := ho_10
    refine zw_some ?_
    first | exact True.intro | ((try dsimp only); first | with_reducible assumption | grind [zu_at, zu_atL, zvn] | ((repeat' apply And.intro) <;> first | with_reducible assumption | first | lia | grind [zu_at, zu_atL, zvn]))
  refine zw_zb0 (sf_X10_advance v1_2 v1_3 v1_4 f2 f3 (by first | with_reducible assumption | exact ⟨by with_reducible assumption, by with_reducible assumption⟩ | first | lia | grind [zu_at, zu_atL, zvn]) (by first | with_reducible assumption | exact ⟨by with_reducible assumption, by with_reducible assumption⟩ | first | lia | grind [zu_at, zu_atL, zvn]) (by first | with_reducible assumption | exact ⟨by with_reducible assumption, by with_reducible assumption⟩ | first | lia | grind [zu_at, zu_atL, zvn])) (fun o_6 ho_6 => ?_)
  obtain ⟨o_6_0, o_6_1, o_6_2, o_6_3, o_6_4⟩ := o_6
  try dsimp only at ho_6
  obtain ⟨ho_6_0, ho_6_1, ho_6_2, ho_6_3, ho_6_4, ho_6_5, ho_6_6, ho_6_7⟩ := ho_6
  refine zw_some ?_
  first | exact True.intro | ((try dsimp only); first | with_reducible assumption | grind [zu_at, zu_atL, zvn] | ((repeat' apply And.intro) <;> first | with_reducible assumption | first | lia | grind [zu_at, zu_atL, zvn]))
set_option maxHeartbeats 4000000 in
set_option maxRecDepth 100000 in
theorem sf_X5_readWhat (p2 : Int32) (v0_1 : Int32) (v0_2 : Int32) (v0_3 : Int32) (v1_2 : Int32) (v1_3 : Int32) (v1_4 : Int32) (v1_5 : Int32) (v1_6 : Int32) (v1_7 : Int32) (f2 : Nat → Int32) (f3 : Nat → Int32) (v5_0 : Int32) (f6 : Nat → Int32) (f7 : Nat → Int32) (f8 : Nat → Int32) (h_v1_2 : 0 ≤ v1_2 ∧ v1_2 ≤ 1200) (h_v1_3 : 0 ≤ v1_3 ∧ v1_3 ≤ 1200) (h_v1_4 : 0 ≤ v1_4 ∧ v1_4 ≤ 5) (h_v1_5 : 0 ≤ v1_5 ∧ v1_5 ≤ 1200) (h_v1_7 : (-1) ≤ v1_7 ∧ v1_7 ≤ 12) (h_v5_0 : 0 ≤ v5_0 ∧ v5_0 ≤ 14) : zw (fn_X5_readWhat p2 v0_1 v0_2 v0_3 v1_2 v1_3 v1_4 v1_5 v1_6 v1_7 f2 f3 v5_0 f6 f7 f8) (fun r => 0 ≤ r.1 ∧ r.1 ≤ 1 ∧ 0 ≤ r.2.2.2.2.1 ∧ r.2.2.2.2.1 ≤ 1200 ∧ 0 ≤ r.2.2.2.2.2.1 ∧ r.2.2.2.2.2.1 ≤ 5 ∧ 0 ≤ r.2.2.2.2.2.2.1 ∧ r.2.2.2.2.2.2.1 ≤ 1200 ∧ (-1) ≤ r.2.2.2.2.2.2.2.2.1 ∧ r.2.2.2.2.2.2.2.2.1 ≤ 12) := by
  unfold fn_X5_readWhat
  refine zw_if (fun c1 => ?_) (fun c1 => ?_)
  · refine zw_zb0 (sf_X4_find v1_6 v5_0 f8 (by first | with_reducible assumption | exact ⟨by with_reducible assumption, by with_reducible assumption⟩ | first | lia | grind [zu_at, zu_atL, zvn])) (fun o_15 ho_15 => ?_)
    obtain ⟨ho_15_0, ho_15_1⟩ := ho_15
    refine zw_zb0 (sf_X5_readKnown o_15 v0_1 v0_2 v0_3 v1_2 v1_3 v1_4 v1_5 v1_6 v1_7 f2 f3 (by first | with_reducible assumption | exact ⟨by with_reducible assumption, by with_reducible assumption⟩ | first | lia | grind [zu_at, zu_atL, zvn]) (by first | with_reducible assumption | exact ⟨by with_reducible assumption, by with_reducible assumption⟩ | first | lia | grind [zu_at, zu_atL, zvn]) (by first | with_reducible assumption | exact ⟨by with_reducible assumption, by with_reducible assumption⟩ | first | lia | grind [zu_at, zu_atL, zvn]) (by first | with_reducible assumption | exact ⟨by with_reducible assumption, by with_reducible assumption⟩ | first | lia | grind [zu_at, zu_atL, zvn]) (by first | with_reducible assumption | exact ⟨by with_reducible assumption, by with_reducible assumption⟩ | first | lia | grind [zu_at, zu_atL, zvn])) (fun o_19 ho_19 => ?_)
    obtain ⟨o_19_0, o_19_1, o_19_2, o_19_3, o_19_4, o_19_5, o_19_6, o_19_7, o_19_8⟩ := o_19
    try dsimp only at ho_19
    obtain ⟨ho_19_0, ho_19_1, ho_19_2, ho_19_3, ho_19_4, ho_19_5, ho_19_6, ho_19_7, ho_19_8, ho_19_9⟩ := ho_19
    refine zw_if (fun c2 => ?_) (fun c2 => ?_)
    · refine zw_zb0 (sf_X4_prepare p2 (-1) 0 v5_0 f6 f7 (by first | with_reducible assumption | exact ⟨by with_reducible assumption, by with_reducible assumption⟩ | first | lia | grind [zu_at, zu_atL, zvn])) (fun o_24 ho_24 => ?_)
      obtain ⟨o_24_0, o_24_1⟩ := o_24
      try dsimp only at ho_24
      refine zw_some ?_
      first | exact True.intro | ((try dsimp only); first | with_reducible assumption | grind [zu_at, zu_atL, zvn] | ((repeat' apply And.intro) <;> first | with_reducible assumption | first | lia | grind [zu_at, zu_atL, zvn]))
    refine zw_zb0 (sf_X4_prepare p2 o_19_1 0 v5_0 f6 f7 (by first | with_reducible assumption | exact ⟨by with_reducible assumption, by with_reducible assumption⟩ | first | lia | grind [zu_at, zu_atL, zvn])) (fun o_28 ho_28 => ?_)
    obtain ⟨o_28_0, o_28_1⟩ := o_28
    try dsimp only at ho_28
    refine zw_some ?_
    first | exact True.intro | ((try dsimp only); first | with_reducible assumption | grind [zu_at, zu_atL, zvn] | ((repeat' apply And.intro) <;> first | with_reducible assumption | first | lia | grind [zu_at, zu_atL, zvn]))
  refine zw_zb0 (sf_X5_readValue 1 (-1000000) 1000000 v0_1 v0_2 v0_3 v1_2 v1_3 v1_4 v1_5 v1_6 v1_7 f2 f3 (by first | with_reducible assumption | exact ⟨by with_reducible assumption, by with_reducible assumption⟩ | first | lia | grind [zu_at, zu_atL, zvn]) (by first | with_reducible assumption | exact ⟨by with_reducible assumption, by with_reducible assumption⟩ | first | lia | grind [zu_at, zu_atL, zvn]) (by first | with_reducible assumption | exact ⟨by with_reducible assumption, by with_reducible assumption⟩ | first | lia | grind [zu_at, zu_atL, zvn]) (by first | with_reducible assumption | exact ⟨by with_reducible assumption, by with_reducible assumption⟩ | first | lia | grind [zu_at, zu_atL, zvn]) (by first | with_reducible assumption | exact ⟨by with_reducible assumption, by with_reducible assumption⟩ | first | lia | grind [zu_at, zu_atL, zvn]) (by first | with_reducible assumption | exact ⟨by with_reducible assumption, by with_reducible assumption⟩ | first | lia | grind [zu_at, zu_atL, zvn])) (fun o_2 ho_2 => ?_)
  obtain ⟨o_2_0, o_2_1, o_2_2, o_2_3, o_2_4, o_2_5, o_2_6, o_2_7, o_2_8⟩ := o_2
  try dsimp only at ho_2
  obtain ⟨ho_2_0, ho_2_1, ho_2_2, ho_2_3, ho_2_4, ho_2_5, ho_2_6, ho_2_7, ho_2_8, ho_2_9⟩ := ho_2
  refine zw_if (fun c3 => ?_) (fun c3 => ?_)
  · refine zw_zb0 (sf_X4_prepare p2 (-1) 0 v5_0 f6 f7 (by first | with_reducible assumption | exact ⟨by with_reducible assumption, by with_reducible assumption⟩ | first | lia | grind [zu_at, zu_atL, zvn])) (fun o_7 ho_7 => ?_)
    obtain ⟨o_7_0, o_7_1⟩ := o_7
    try dsimp only at ho_7
    refine zw_some ?_
    first | exact True.intro | ((try dsimp only); first | with_reducible assumption | grind [zu_at, zu_atL, zvn] | ((repeat' apply And.intro) <;> first | with_reducible assumption | first | lia | grind [zu_at, zu_atL, zvn]))
  refine zw_zb0 (sf_X4_prepare p2 (-1) o_2_1 v5_0 f6 f7 (by first | with_reducible assumption | exact ⟨by with_reducible assumption, by with_reducible assumption⟩ | first | lia | grind [zu_at, zu_atL, zvn])) (fun o_11 ho_11 => ?_)
  obtain ⟨o_11_0, o_11_1⟩ := o_11
  try dsimp only at ho_11
  refine zw_some ?_
  first | exact True.intro | ((try dsimp only); first | with_reducible assumption | grind [zu_at, zu_atL, zvn] | ((repeat' apply And.intro) <;> first | with_reducible assumption | first | lia | grind [zu_at, zu_atL, zvn]))
set_option maxHeartbeats 4000000 in
set_option maxRecDepth 100000 in
theorem sf_X5_readOp (v0_1 : Int32) (v0_2 : Int32) (v0_3 : Int32) (v1_2 : Int32) (v1_3 : Int32) (v1_4 : Int32) (v1_5 : Int32) (v1_6 : Int32) (v1_7 : Int32) (f2 : Nat → Int32) (f3 : Nat → Int32) (h_v1_2 : 0 ≤ v1_2 ∧ v1_2 ≤ 1200) (h_v1_3 : 0 ≤ v1_3 ∧ v1_3 ≤ 1200) (h_v1_4 : 0 ≤ v1_4 ∧ v1_4 ≤ 5) (h_v1_5 : 0 ≤ v1_5 ∧ v1_5 ≤ 1200) (h_v1_7 : (-1) ≤ v1_7 ∧ v1_7 ≤ 12) : zw (fn_X5_readOp v0_1 v0_2 v0_3 v1_2 v1_3 v1_4 v1_5 v1_6 v1_7 f2 f3) (fun r => 0 ≤ r.1 ∧ r.1 ≤ 1 ∧ 0 ≤ r.2.2.2.2.1 ∧ r.2.2.2.2.1 ≤ 1200 ∧ 0 ≤ r.2.2.2.2.2.1 ∧ r.2.2.2.2.2.1 ≤ 5 ∧ 0 ≤ r.2.2.2.2.2.2.1 ∧ r.2.2.2.2.2.2.1 ≤ 1200 ∧ (-1) ≤ r.2.2.2.2.2.2.2.2 ∧ r.2.2.2.2.2.2.2.2 ≤ 12) := by
  unfold fn_X5_readOp
  refine zw_zb0 (sf_X10_isSign 43 v1_4 v1_6 (by first | with_reducible assumption | exact ⟨by with_reducible assumption, by with_reducible assumption⟩ | first | lia | grind [zu_at, zu_atL, zvn])) (fun o_1 ho_1 => ?_)
  obtain ⟨ho_1_0, ho_1_1, ho_1_2, ho_1_3, ho_1_4, ho_1_5⟩ := ho_1
  refine zw_if (fun c1 => ?_) (fun c1 => ?_)
  · refine zw_zb0 (sf_X10_isSign 45 v1_4 v1_6 (by first | with_reducible assumption | exact ⟨by with_reducible assumption, by with_reducible assumption⟩ | first | lia | grind [zu_at, zu_atL, zvn])) (fun o_6 ho_6 => ?_)
    obtain ⟨ho_6_0, ho_6_1, ho_6_2, ho_6_3, ho_6_4, ho_6_5⟩ := ho_6
    refine zw_if (fun c2 => ?_) (fun c2 => ?_)
    · refine zw_zb0 (sf_X10_isSign 42 v1_4 v1_6 (by first | with_reducible assumption | exact ⟨by with_reducible assumption, by with_reducible assumption⟩ | first | lia | grind [zu_at, zu_atL, zvn])) (fun o_11 ho_11 => ?_)
      obtain ⟨ho_11_0, ho_11_1, ho_11_2, ho_11_3, ho_11_4, ho_11_5⟩ := ho_11
      refine zw_if (fun c3 => ?_) (fun c3 => ?_)
      · refine zw_zb0 (sf_X10_isOwn 7 v1_4 v1_7 (by first | with_reducible assumption | exact ⟨by with_reducible assumption, by with_reducible assumption⟩ | first | lia | grind [zu_at, zu_atL, zvn]) (by first | with_reducible assumption | exact ⟨by with_reducible assumption, by with_reducible assumption⟩ | first | lia | grind [zu_at, zu_atL, zvn])) (fun o_16 ho_16 => ?_)
        obtain ⟨ho_16_0, ho_16_1, ho_16_2, ho_16_3, ho_16_4, ho_16_5, ho_16_6⟩ := ho_16
        refine zw_if (fun c4 => ?_) (fun c4 => ?_)
        · refine zw_zb0 (sf_X10_isOwn 8 v1_4 v1_7 (by first | with_reducible assumption | exact ⟨by with_reducible assumption, by with_reducible assumption⟩ | first | lia | grind [zu_at, zu_atL, zvn]) (by first | with_reducible assumption | exact ⟨by with_reducible assumption, by with_reducible assumption⟩ | first | lia | grind [zu_at, zu_atL, zvn])) (fun o_21 ho_21 => ?_)
          obtain ⟨ho_21_0, ho_21_1, ho_21_2, ho_21_3, ho_21_4, ho_21_5, ho_21_6⟩ := ho_21
          refine zw_if (fun c5 => ?_) (fun c5 => ?_)
          · refine zw_zb0 (sf_X5_stopAt 1 v1_5) (fun o_26 ho_26 => ?_)
            obtain ⟨o_26_0, o_26_1, o_26_2⟩ := o_26
            try dsimp only at ho_26
            obtain ⟨ho_26_0, ho_26_1, ho_26_2⟩ := ho_26
            refine zw_some ?_
            first | exact True.intro | ((try dsimp only); first | with_reducible assumption | grind [zu_at, zu_atL, zvn] | ((repeat' apply And.intro) <;> first | with_reducible assumption | first | lia | grind [zu_at, zu_atL, zvn]))
          refine zw_zb0 (sf_X10_advance v1_2 v1_3 v1_4 f2 f3 (by first | with_reducible assumption | exact ⟨by with_reducible assumption, by with_reducible assumption⟩ | first | lia | grind [zu_at, zu_atL, zvn]) (by first | with_reducible assumption | exact ⟨by with_reducible assumption, by with_reducible assumption⟩ | first | lia | grind [zu_at, zu_atL, zvn]) (by first | with_reducible assumption | exact ⟨by with_reducible assumption, by with_reducible assumption⟩ | first | lia | grind [zu_at, zu_atL, zvn])) (fun o_30 ho_30 => ?_)
          obtain ⟨o_30_0, o_30_1, o_30_2, o_30_3, o_30_4⟩ := o_30
          try dsimp only at ho_30
          obtain ⟨ho_30_0, ho_30_1, ho_30_2, ho_30_3, ho_30_4, ho_30_5, ho_30_6, ho_30_7⟩ := ho_30
          refine zw_some ?_
          first | exact True.intro | ((try dsimp only); first | with_reducible assumption | grind [zu_at, zu_atL, zvn] | ((repeat' apply And.intro) <;> first | with_reducible assumption | first | lia | grind [zu_at, zu_atL, zvn]))
        refine zw_zb0 (sf_X10_advance v1_2 v1_3 v1_4 f2 f3 (by first | with_reducible assumption | exact ⟨by with_reducible assumption, by with_reducible assumption⟩ | first | lia | grind [zu_at, zu_atL, zvn]) (by first | with_reducible assumption | exact ⟨by with_reducible assumption, by with_reducible assumption⟩ | first | lia | grind [zu_at, zu_atL, zvn]) (by first | with_reducible assumption | exact ⟨by with_reducible assumption, by with_reducible assumption⟩ | first | lia | grind [zu_at, zu_atL, zvn])) (fun o_34 ho_34 => ?_)
        obtain ⟨o_34_0, o_34_1, o_34_2, o_34_3, o_34_4⟩ := o_34
        try dsimp only at ho_34
        obtain ⟨ho_34_0, ho_34_1, ho_34_2, ho_34_3, ho_34_4, ho_34_5, ho_34_6, ho_34_7⟩ := ho_34
        refine zw_some ?_
        first | exact True.intro | ((try dsimp only); first | with_reducible assumption | grind [zu_at, zu_atL, zvn] | ((repeat' apply And.intro) <;> first | with_reducible assumption | first | lia | grind [zu_at, zu_atL, zvn]))
      refine zw_zb0 (sf_X10_advance v1_2 v1_3 v1_4 f2 f3 (by first | with_reducible assumption | exact ⟨by with_reducible assumption, by with_reducible assumption⟩ | first | lia | grind [zu_at, zu_atL, zvn]) (by first | with_reducible assumption | exact ⟨by with_reducible assumption, by with_reducible assumption⟩ | first | lia | grind [zu_at, zu_atL, zvn]) (by first | with_reducible assumption | exact ⟨by with_reducible assumption, by with_reducible assumption⟩ | first | lia | grind [zu_at, zu_atL, zvn])) (fun o_38 ho_38 => ?_)
      obtain ⟨o_38_0, o_38_1, o_38_2, o_38_3, o_38_4⟩ := o_38
      try dsimp only at ho_38
      obtain ⟨ho_38_0, ho_38_1, ho_38_2, ho_38_3, ho_38_4, ho_38_5, ho_38_6, ho_38_7⟩ := ho_38
      refine zw_some ?_
      first | exact True.intro | ((try dsimp only); first | with_reducible assumption | grind [zu_at, zu_atL, zvn] | ((repeat' apply And.intro) <;> first | with_reducible assumption | first | lia | grind [zu_at, zu_atL, zvn]))
    refine zw_zb0 (sf_X10_advance v1_2 v1_3 v1_4 f2 f3 (by first | with_reducible assumption | exact ⟨by with_reducible assumption, by with_reducible assumption⟩ | first | lia | grind [zu_at, zu_atL, zvn]) (by first | with_reducible assumption | exact ⟨by with_reducible assumption, by with_reducible assumption⟩ | first | lia | grind [zu_at, zu_atL, zvn]) (by first | with_reducible assumption | exact ⟨by with_reducible assumption, by with_reducible assumption⟩ | first | lia | grind [zu_at, zu_atL, zvn])) (fun o_42 ho_42 => ?_)
    obtain ⟨o_42_0, o_42_1, o_42_2, o_42_3, o_42_4⟩ := o_42
    try dsimp only at ho_42
    obtain ⟨ho_42_0, ho_42_1, ho_42_2, ho_42_3, ho_42_4, ho_42_5, ho_42_6, ho_42_7⟩ := ho_42
    refine zw_some ?_
    first | exact True.intro | ((try dsimp only); first | with_reducible assumption | grind [zu_at, zu_atL, zvn] | ((repeat' apply And.intro) <;> first | with_reducible assumption | first | lia | grind [zu_at, zu_atL, zvn]))
  refine zw_zb0 (sf_X10_advance v1_2 v1_3 v1_4 f2 f3 (by first | with_reducible assumption | exact ⟨by with_reducible assumption, by with_reducible assumption⟩ | first | lia | grind [zu_at, zu_atL, zvn]) (by first | with_reducible assumption | exact ⟨by with_reducible assumption, by with_reducible assumption⟩ | first | lia | grind [zu_at, zu_atL, zvn]) (by first | with_reducible assumption | exact ⟨by with_reducible assumption, by with_reducible assumption⟩ | first | lia | grind [zu_at, zu_atL, zvn])) (fun o_46 ho_46 => ?_)
  obtain ⟨o_46_0, o_46_1, o_46_2, o_46_3, o_46_4⟩ := o_46
  try dsimp only at ho_46
  obtain ⟨ho_46_0, ho_46_1, ho_46_2, ho_46_3, ho_46_4, ho_46_5, ho_46_6, ho_46_7⟩ := ho_46
  refine zw_some ?_
  first | exact True.intro | ((try dsimp only); first | with_reducible assumption | grind [zu_at, zu_atL, zvn] | ((repeat' apply And.intro) <;> first | with_reducible assumption | first | lia | grind [zu_at, zu_atL, zvn]))
set_option maxHeartbeats 4000000 in
set_option maxRecDepth 100000 in
theorem sf_X5_readLet (v0_1 : Int32) (v0_2 : Int32) (v0_3 : Int32) (v1_2 : Int32) (v1_3 : Int32) (v1_4 : Int32) (v1_5 : Int32) (v1_6 : Int32) (v1_7 : Int32) (v2_0 : Int32) (f3 : Nat → Int32) (v4_0 : Int32) (v4_1 : Int32) (f5 : Nat → Int32) (f6 : Nat → Int32) (f7 : Nat → Int32) (f8 : Nat → Int32) (f9 : Nat → Int32) (f10 : Nat → Int32) (f11 : Nat → Int32) (f12 : Nat → Int32) (f13 : Nat → Int32) (f14 : Nat → Int32) (h_v1_2 : 0 ≤ v1_2 ∧ v1_2 ≤ 1200) (h_v1_3 : 0 ≤ v1_3 ∧ v1_3 ≤ 1200) (h_v1_4 : 0 ≤ v1_4 ∧ v1_4 ≤ 5) (h_v1_5 : 0 ≤ v1_5 ∧ v1_5 ≤ 1200) (h_v1_7 : (-1) ≤ v1_7 ∧ v1_7 ≤ 12) (h_v2_0 : 0 ≤ v2_0 ∧ v2_0 ≤ 4) (h_v4_0 : 0 ≤ v4_0 ∧ v4_0 ≤ 14) : zw (fn_X5_readLet v0_1 v0_2 v0_3 v1_2 v1_3 v1_4 v1_5 v1_6 v1_7 v2_0 f3 v4_0 v4_1 f5 f6 f7 f8 f9 f10 f11 f12 f13 f14) (fun r => 0 ≤ r.1 ∧ r.1 ≤ 1 ∧ 0 ≤ r.2.2.2.2.1 ∧ r.2.2.2.2.1 ≤ 1200 ∧ 0 ≤ r.2.2.2.2.2.1 ∧ r.2.2.2.2.2.1 ≤ 5 ∧ 0 ≤ r.2.2.2.2.2.2.1 ∧ r.2.2.2.2.2.2.1 ≤ 1200 ∧ (-1) ≤ r.2.2.2.2.2.2.2.2.1 ∧ r.2.2.2.2.2.2.2.2.1 ≤ 12 ∧ 0 ≤ r.2.2.2.2.2.2.2.2.2.1 ∧ r.2.2.2.2.2.2.2.2.2.1 ≤ 14) := by
  unfold fn_X5_readLet
  refine zw_zb0 (sf_X5_readNewName v0_1 v0_2 v0_3 v1_2 v1_3 v1_4 v1_5 v1_6 v1_7 v2_0 f3 v4_0 f5 f6 f7 (by first | with_reducible assumption | exact ⟨by with_reducible assumption, by with_reducible assumption⟩ | first | lia | grind [zu_at, zu_atL, zvn]) (by first | with_reducible assumption | exact ⟨by with_reducible assumption, by with_reducible assumption⟩ | first | lia | grind [zu_at, zu_atL, zvn]) (by first | with_reducible assumption | exact ⟨by with_reducible assumption, by with_reducible assumption⟩ | first | lia | grind [zu_at, zu_atL, zvn]) (by first | with_reducible assumption | exact ⟨by with_reducible assumption, by with_reducible assumption⟩ | first | lia | grind [zu_at, zu_atL, zvn]) (by first | with_reducible assumption | exact ⟨by with_reducible assumption, by with_reducible assumption⟩ | first | lia | grind [zu_at, zu_atL, zvn]) (by first | with_reducible assumption | exact ⟨by with_reducible assumption, by with_reducible assumption⟩ | first | lia | grind [zu_at, zu_atL, zvn]) (by first | with_reducible assumption | exact ⟨by with_reducible assumption, by with_reducible assumption⟩ | first | lia | grind [zu_at, zu_atL, zvn])) (fun o_1 ho_1 => ?_)
  obtain ⟨o_1_0, o_1_1, o_1_2, o_1_3, o_1_4, o_1_5, o_1_6, o_1_7, o_1_8⟩ := o_1
  try dsimp only at ho_1
  obtain ⟨ho_1_0, ho_1_1, ho_1_2, ho_1_3, ho_1_4, ho_1_5, ho_1_6, ho_1_7, ho_1_8, ho_1_9⟩ := ho_1
  refine zw_if (fun c1 => ?_) (fun c1 => ?_)
  · refine zw_some ?_
    first | exact True.intro | ((try dsimp only); first | with_reducible assumption | grind [zu_at, zu_atL, zvn] | ((repeat' apply And.intro) <;> first | with_reducible assumption | first | lia | grind [zu_at, zu_atL, zvn]))
  refine zw_zb0 (sf_X5_readSign 61 o_1_2 o_1_3 v1_2 o_1_4 o_1_5 o_1_6 o_1_7 o_1_8 f6 f7 (by first | with_reducible assumption | exact ⟨by with_reducible assumption, by with_reducible assumption⟩ | first | lia | grind [zu_at, zu_atL, zvn]) (by first | with_reducible assumption | exact ⟨by with_reducible assumption, by with_reducible assumption⟩ | first | lia | grind [zu_at, zu_atL, zvn]) (by first | with_reducible assumption | exact ⟨by with_reducible assumption, by with_reducible assumption⟩ | first | lia | grind [zu_at, zu_atL, zvn]) (by first | with_reducible assumption | exact ⟨by with_reducible assumption, by with_reducible assumption⟩ | first | lia | grind [zu_at, zu_atL, zvn]) (by first | with_reducible assumption | exact ⟨by with_reducible assumption, by with_reducible assumption⟩ | first | lia | grind [zu_at, zu_atL, zvn])) (fun o_6 ho_6 => ?_)
  obtain ⟨o_6_0, o_6_1, o_6_2, o_6_3, o_6_4, o_6_5, o_6_6, o_6_7⟩ := o_6
  try dsimp only at ho_6
  obtain ⟨ho_6_0, ho_6_1, ho_6_2, ho_6_3, ho_6_4, ho_6_5, ho_6_6, ho_6_7, ho_6_8, ho_6_9⟩ := ho_6
  refine zw_if (fun c2 => ?_) (fun c2 => ?_)
  · refine zw_some ?_
    first | exact True.intro | ((try dsimp only); first | with_reducible assumption | grind [zu_at, zu_atL, zvn] | ((repeat' apply And.intro) <;> first | with_reducible assumption | first | lia | grind [zu_at, zu_atL, zvn]))
  refine zw_zb0 (sf_X5_readWhat 0 o_1_1 o_6_1 o_6_2 v1_2 o_6_3 o_6_4 o_6_5 o_6_6 o_6_7 f6 f7 v4_0 f8 f9 f5 (by first | with_reducible assumption | exact ⟨by with_reducible assumption, by with_reducible assumption⟩ | first | lia | grind [zu_at, zu_atL, zvn]) (by first | with_reducible assumption | exact ⟨by with_reducible assumption, by with_reducible assumption⟩ | first | lia | grind [zu_at, zu_atL, zvn]) (by first | with_reducible assumption | exact ⟨by with_reducible assumption, by with_reducible assumption⟩ | first | lia | grind [zu_at, zu_atL, zvn]) (by first | with_reducible assumption | exact ⟨by with_reducible assumption, by with_reducible assumption⟩ | first | lia | grind [zu_at, zu_atL, zvn]) (by first | with_reducible assumption | exact ⟨by with_reducible assumption, by with_reducible assumption⟩ | first | lia | grind [zu_at, zu_atL, zvn]) (by first | with_reducible assumption | exact ⟨by with_reducible assumption, by with_reducible assumption⟩ | first | lia | grind [zu_at, zu_atL, zvn])) (fun o_11 ho_11 => ?_)
  obtain ⟨o_11_0, o_11_1, o_11_2, o_11_3, o_11_4, o_11_5, o_11_6, o_11_7, o_11_8, o_11_9, o_11_10⟩ := o_11
  try dsimp only at ho_11
  obtain ⟨ho_11_0, ho_11_1, ho_11_2, ho_11_3, ho_11_4, ho_11_5, ho_11_6, ho_11_7, ho_11_8, ho_11_9⟩ := ho_11
  refine zw_if (fun c3 => ?_) (fun c3 => ?_)
  · refine zw_some ?_
    first | exact True.intro | ((try dsimp only); first | with_reducible assumption | grind [zu_at, zu_atL, zvn] | ((repeat' apply And.intro) <;> first | with_reducible assumption | first | lia | grind [zu_at, zu_atL, zvn]))
  refine zw_zb0 (sf_X5_readOp o_11_1 o_11_2 o_11_3 v1_2 o_11_4 o_11_5 o_11_6 o_11_7 o_11_8 f6 f7 (by first | with_reducible assumption | exact ⟨by with_reducible assumption, by with_reducible assumption⟩ | first | lia | grind [zu_at, zu_atL, zvn]) (by first | with_reducible assumption | exact ⟨by with_reducible assumption, by with_reducible assumption⟩ | first | lia | grind [zu_at, zu_atL, zvn]) (by first | with_reducible assumption | exact ⟨by with_reducible assumption, by with_reducible assumption⟩ | first | lia | grind [zu_at, zu_atL, zvn]) (by first | with_reducible assumption | exact ⟨by with_reducible assumption, by with_reducible assumption⟩ | first | lia | grind [zu_at, zu_atL, zvn]) (by first | with_reducible assumption | exact ⟨by with_reducible assumption, by with_reducible assumption⟩ | first | lia | grind [zu_at, zu_atL, zvn])) (fun o_16 ho_16 => ?_)
  obtain ⟨o_16_0, o_16_1, o_16_2, o_16_3, o_16_4, o_16_5, o_16_6, o_16_7, o_16_8⟩ := o_16
  try dsimp only at ho_16
  obtain ⟨ho_16_0, ho_16_1, ho_16_2, ho_16_3, ho_16_4, ho_16_5, ho_16_6, ho_16_7, ho_16_8, ho_16_9⟩ := ho_16
  refine zw_if (fun c4 => ?_) (fun c4 => ?_)
  · refine zw_some ?_
    first | exact True.intro | ((try dsimp only); first | with_reducible assumption | grind [zu_at, zu_atL, zvn] | ((repeat' apply And.intro) <;> first | with_reducible assumption | first | lia | grind [zu_at, zu_atL, zvn]))
  refine zw_zb0 (sf_X5_readWhat 1 o_16_1 o_16_2 o_16_3 v1_2 o_16_4 o_16_5 o_16_6 o_16_7 o_16_8 f6 f7 v4_0 o_11_9 o_11_10 f5 (by first | with_reducible assumption | exact ⟨by with_reducible assumption, by with_reducible assumption⟩ | first | lia | grind [zu_at, zu_atL, zvn]) (by first | with_reducible assumption | exact ⟨by with_reducible assumption, by with_reducible assumption⟩ | first | lia | grind [zu_at, zu_atL, zvn]) (by first | with_reducible assumption | exact ⟨by with_reducible assumption, by with_reducible assumption⟩ | first | lia | grind [zu_at, zu_atL, zvn]) (by first | with_reducible assumption | exact ⟨by with_reducible assumption, by with_reducible assumption⟩ | first | lia | grind [zu_at, zu_atL, zvn]) (by first | with_reducible assumption | exact ⟨by with_reducible assumption, by with_reducible assumption⟩ | first | lia | grind [zu_at, zu_atL, zvn]) (by first | with_reducible assumption | exact ⟨by with_reducible assumption, by with_reducible assumption⟩ | first | lia | grind [zu_at, zu_atL, zvn])) (fun o_21 ho_21 => ?_)
  obtain ⟨o_21_0, o_21_1, o_21_2, o_21_3, o_21_4, o_21_5, o_21_6, o_21_7, o_21_8, o_21_9, o_21_10⟩ := o_21
  try dsimp only at ho_21
  obtain ⟨ho_21_0, ho_21_1, ho_21_2, ho_21_3, ho_21_4, ho_21_5, ho_21_6, ho_21_7, ho_21_8, ho_21_9⟩ := ho_21
  refine zw_if (fun c5 => ?_) (fun c5 => ?_)
  · refine zw_some ?_
    first | exact True.intro | ((try dsimp only); first | with_reducible assumption | grind [zu_at, zu_atL, zvn] | ((repeat' apply And.intro) <;> first | with_reducible assumption | first | lia | grind [zu_at, zu_atL, zvn]))
  refine zw_zb0 (sf_X4_add o_1_1 o_16_1 v4_0 v4_1 f5 f10 f11 f12 f13 o_21_9 f14 (by first | with_reducible assumption | exact ⟨by with_reducible assumption, by with_reducible assumption⟩ | first | lia | grind [zu_at, zu_atL, zvn])) (fun o_26 ho_26 => ?_)
  obtain ⟨o_26_0, o_26_1, o_26_2, o_26_3, o_26_4, o_26_5, o_26_6, o_26_7⟩ := o_26
  try dsimp only at ho_26
  obtain ⟨ho_26_0, ho_26_1, ho_26_2⟩ := ho_26
  refine zw_some ?_
  first | exact True.intro | ((try dsimp only); first | with_reducible assumption | grind [zu_at, zu_atL, zvn] | ((repeat' apply And.intro) <;> first | with_reducible assumption | first | lia | grind [zu_at, zu_atL, zvn]))
set_option maxHeartbeats 4000000 in
set_option maxRecDepth 100000 in
theorem sf_X5_readFixed (v0_1 : Int32) (v0_2 : Int32) (v0_3 : Int32) (v1_0 : Int32) (v2_2 : Int32) (v2_3 : Int32) (v2_4 : Int32) (v2_5 : Int32) (v2_6 : Int32) (v2_7 : Int32) (v3_0 : Int32) (f4 : Nat → Int32) (f5 : Nat → Int32) (f6 : Nat → Int32) (f7 : Nat → Int32) (f8 : Nat → Int32) (h_v1_0 : 0 ≤ v1_0 ∧ v1_0 ≤ 4) (h_v2_2 : 0 ≤ v2_2 ∧ v2_2 ≤ 1200) (h_v2_3 : 0 ≤ v2_3 ∧ v2_3 ≤ 1200) (h_v2_4 : 0 ≤ v2_4 ∧ v2_4 ≤ 5) (h_v2_5 : 0 ≤ v2_5 ∧ v2_5 ≤ 1200) (h_v2_7 : (-1) ≤ v2_7 ∧ v2_7 ≤ 12) (h_v3_0 : 0 ≤ v3_0 ∧ v3_0 ≤ 14) : zw (fn_X5_readFixed v0_1 v0_2 v0_3 v1_0 v2_2 v2_3 v2_4 v2_5 v2_6 v2_7 v3_0 f4 f5 f6 f7 f8) (fun r => 0 ≤ r.1 ∧ r.1 ≤ 1 ∧ 0 ≤ r.2.2.2.2.1 ∧ r.2.2.2.2.1 ≤ 1200 ∧ 0 ≤ r.2.2.2.2.2.1 ∧ r.2.2.2.2.2.1 ≤ 5 ∧ 0 ≤ r.2.2.2.2.2.2.1 ∧ r.2.2.2.2.2.2.1 ≤ 1200 ∧ (-1) ≤ r.2.2.2.2.2.2.2.2.1 ∧ r.2.2.2.2.2.2.2.2.1 ≤ 12) := by
  unfold fn_X5_readFixed
  refine zw_zb0 (sf_X4_find v2_6 v3_0 f4 (by first | with_reducible assumption | exact ⟨by with_reducible assumption, by with_reducible assumption⟩ | first | lia | grind [zu_at, zu_atL, zvn])) (fun o_1 ho_1 => ?_)
  obtain ⟨ho_1_0, ho_1_1⟩ := ho_1
  refine zw_zb0 (sf_X5_readKnown o_1 v0_1 v0_2 v0_3 v2_2 v2_3 v2_4 v2_5 v2_6 v2_7 f5 f6 (by first | with_reducible assumption | exact ⟨by with_reducible assumption, by with_reducible assumption⟩ | first | lia | grind [zu_at, zu_atL, zvn]) (by first | with_reducible assumption | exact ⟨by with_reducible assumption, by with_reducible assumption⟩ | first | lia | grind [zu_at, zu_atL, zvn]) (by first | with_reducible assumption | exact ⟨by with_reducible assumption, by with_reducible assumption⟩ | first | lia | grind [zu_at, zu_atL, zvn]) (by first | with_reducible assumption | exact ⟨by with_reducible assumption, by with_reducible assumption⟩ | first | lia | grind [zu_at, zu_atL, zvn]) (by first | with_reducible assumption | exact ⟨by with_reducible assumption, by with_reducible assumption⟩ | first | lia | grind [zu_at, zu_atL, zvn])) (fun o_5 ho_5 => ?_)
  obtain ⟨o_5_0, o_5_1, o_5_2, o_5_3, o_5_4, o_5_5, o_5_6, o_5_7, o_5_8⟩ := o_5
  try dsimp only at ho_5
  obtain ⟨ho_5_0, ho_5_1, ho_5_2, ho_5_3, ho_5_4, ho_5_5, ho_5_6, ho_5_7, ho_5_8, ho_5_9⟩ := ho_5
  refine zw_if (fun c1 => ?_) (fun c1 => ?_)
  · refine zw_some ?_
    first | exact True.intro | ((try dsimp only); first | with_reducible assumption | grind [zu_at, zu_atL, zvn] | ((repeat' apply And.intro) <;> first | with_reducible assumption | first | lia | grind [zu_at, zu_atL, zvn]))
  refine zw_zb0 (sf_X9_findFormat o_5_7 v1_0 f7 (by first | with_reducible assumption | exact ⟨by with_reducible assumption, by with_reducible assumption⟩ | first | lia | grind [zu_at, zu_atL, zvn])) (fun o_10 ho_10 => ?_)
  obtain ⟨ho_10_0, ho_10_1⟩ := ho_10
  refine zw_zb0 (sf_X5_readKnown o_10 o_5_1 o_5_2 o_5_3 v2_2 o_5_4 o_5_5 o_5_6 o_5_7 o_5_8 f5 f6 (by first | with_reducible assumption | exact ⟨by with_reducible assumption, by with_reducible assumption⟩ | first | lia | grind [zu_at, zu_atL, zvn]) (by first | with_reducible assumption | exact ⟨by with_reducible assumption, by with_reducible assumption⟩ | first | lia | grind [zu_at, zu_atL, zvn]) (by first | with_reducible assumption | exact ⟨by with_reducible assumption, by with_reducible assumption⟩ | first | lia | grind [zu_at, zu_atL, zvn]) (by first | with_reducible assumption | exact ⟨by with_reducible assumption, by with_reducible assumption⟩ | first | lia | grind [zu_at, zu_atL, zvn]) (by first | with_reducible assumption | exact ⟨by with_reducible assumption, by with_reducible assumption⟩ | first | lia | grind [zu_at, zu_atL, zvn])) (fun o_14 ho_14 => ?_)
  obtain ⟨o_14_0, o_14_1, o_14_2, o_14_3, o_14_4, o_14_5, o_14_6, o_14_7, o_14_8⟩ := o_14
  try dsimp only at ho_14
  obtain ⟨ho_14_0, ho_14_1, ho_14_2, ho_14_3, ho_14_4, ho_14_5, ho_14_6, ho_14_7, ho_14_8, ho_14_9⟩ := ho_14
  refine zw_if (fun c2 => ?_) (fun c2 => ?_)
  · refine zw_some ?_
    first | exact True.intro | ((try dsimp only); first | with_reducible assumption | grind [zu_at, zu_atL, zvn] | ((repeat' apply And.intro) <;> first | with_reducible assumption | first | lia | grind [zu_at, zu_atL, zvn]))
  refine zw_zb0 (sf_X4_fix o_5_1 o_14_1 v3_0 f8 (by first | with_reducible assumption | exact ⟨by with_reducible assumption, by with_reducible assumption⟩ | first | lia | grind [zu_at, zu_atL, zvn])) (fun o_19 ho_19 => ?_)
  refine zw_some ?_
  first | exact True.intro | ((try dsimp only); first | with_reducible assumption | grind [zu_at, zu_atL, zvn] | ((repeat' apply And.intro) <;> first | with_reducible assumption | first | lia | grind [zu_at, zu_atL, zvn]))
set_option maxHeartbeats 4000000 in
set_option maxRecDepth 100000 in
theorem sf_X5_readGroup (v0_1 : Int32) (v0_2 : Int32) (v0_3 : Int32) (v2_2 : Int32) (v2_3 : Int32) (v2_4 : Int32) (v2_5 : Int32) (v2_6 : Int32) (v2_7 : Int32) (v3_0 : Int32) (f4 : Nat → Int32) (f5 : Nat → Int32) (f6 : Nat → Int32) (f7 : Nat → Int32) (h_v2_2 : 0 ≤ v2_2 ∧ v2_2 ≤ 1200) (h_v2_3 : 0 ≤ v2_3 ∧ v2_3 ≤ 1200) (h_v2_4 : 0 ≤ v2_4 ∧ v2_4 ≤ 5) (h_v2_5 : 0 ≤ v2_5 ∧ v2_5 ≤ 1200) (h_v2_7 : (-1) ≤ v2_7 ∧ v2_7 ≤ 12) (h_v3_0 : 0 ≤ v3_0 ∧ v3_0 ≤ 14) : zw (fn_X5_readGroup v0_1 v0_2 v0_3 v2_2 v2_3 v2_4 v2_5 v2_6 v2_7 v3_0 f4 f5 f6 f7) (fun r => 0 ≤ r.1 ∧ r.1 ≤ 1 ∧ 0 ≤ r.2.2.2.2.1 ∧ r.2.2.2.2.1 ≤ 1200 ∧ 0 ≤ r.2.2.2.2.2.1 ∧ r.2.2.2.2.2.1 ≤ 5 ∧ 0 ≤ r.2.2.2.2.2.2.1 ∧ r.2.2.2.2.2.2.1 ≤ 1200 ∧ (-1) ≤ r.2.2.2.2.2.2.2.2.1 ∧ r.2.2.2.2.2.2.2.2.1 ≤ 12) := by
  unfold fn_X5_readGroup
  refine zw_zb0 (sf_X4_find v2_6 v3_0 f4 (by first | with_reducible assumption | exact ⟨by with_reducible assumption, by with_reducible assumption⟩ | first | lia | grind [zu_at, zu_atL, zvn])) (fun o_1 ho_1 => ?_)
  obtain ⟨ho_1_0, ho_1_1⟩ := ho_1
  refine zw_zb0 (sf_X5_readKnown o_1 v0_1 v0_2 v0_3 v2_2 v2_3 v2_4 v2_5 v2_6 v2_7 f5 f6 (by first | with_reducible assumption | exact ⟨by with_reducible assumption, by with_reducible assumption⟩ | first | lia | grind [zu_at, zu_atL, zvn]) (by first | with_reducible assumption | exact ⟨by with_reducible assumption, by with_reducible assumption⟩ | first | lia | grind [zu_at, zu_atL, zvn]) (by first | with_reducible assumption | exact ⟨by with_reducible assumption, by with_reducible assumption⟩ | first | lia | grind [zu_at, zu_atL, zvn]) (by first | with_reducible assumption | exact ⟨by with_reducible assumption, by with_reducible assumption⟩ | first | lia | grind [zu_at, zu_atL, zvn]) (by first | with_reducible assumption | exact ⟨by with_reducible assumption, by with_reducible assumption⟩ | first | lia | grind [zu_at, zu_atL, zvn])) (fun o_5 ho_5 => ?_)
  obtain ⟨o_5_0, o_5_1, o_5_2, o_5_3, o_5_4, o_5_5, o_5_6, o_5_7, o_5_8⟩ := o_5
  try dsimp only at ho_5
  obtain ⟨ho_5_0, ho_5_1, ho_5_2, ho_5_3, ho_5_4, ho_5_5, ho_5_6, ho_5_7, ho_5_8, ho_5_9⟩ := ho_5
  refine zw_if (fun c1 => ?_) (fun c1 => ?_)
  · refine zw_some ?_
    first | exact True.intro | ((try dsimp only); first | with_reducible assumption | grind [zu_at, zu_atL, zvn] | ((repeat' apply And.intro) <;> first | with_reducible assumption | first | lia | grind [zu_at, zu_atL, zvn]))
  refine zw_zb0 (sf_X4_find o_5_7 v3_0 f4 (by first | with_reducible assumption | exact ⟨by with_reducible assumption, by with_reducible assumption⟩ | first | lia | grind [zu_at, zu_atL, zvn])) (fun o_10 ho_10 => ?_)
  obtain ⟨ho_10_0, ho_10_1⟩ := ho_10
  refine zw_zb0 (sf_X5_readKnown o_10 o_5_1 o_5_2 o_5_3 v2_2 o_5_4 o_5_5 o_5_6 o_5_7 o_5_8 f5 f6 (by first | with_reducible assumption | exact ⟨by with_reducible assumption, by with_reducible assumption⟩ | first | lia | grind [zu_at, zu_atL, zvn]) (by first | with_reducible assumption | exact ⟨by with_reducible assumption, by with_reducible assumption⟩ | first | lia | grind [zu_at, zu_atL, zvn]) (by first | with_reducible assumption | exact ⟨by with_reducible assumption, by with_reducible assumption⟩ | first | lia | grind [zu_at, zu_atL, zvn]) (by first | with_reducible assumption | exact ⟨by with_reducible assumption, by with_reducible assumption⟩ | first | lia | grind [zu_at, zu_atL, zvn]) (by first | with_reducible assumption | exact ⟨by with_reducible assumption, by with_reducible assumption⟩ | first | lia | grind [zu_at, zu_atL, zvn])) (fun o_14 ho_14 => ?_)
  obtain ⟨o_14_0, o_14_1, o_14_2, o_14_3, o_14_4, o_14_5, o_14_6, o_14_7, o_14_8⟩ := o_14
  try dsimp only at ho_14
  obtain ⟨ho_14_0, ho_14_1, ho_14_2, ho_14_3, ho_14_4, ho_14_5, ho_14_6, ho_14_7, ho_14_8, ho_14_9⟩ := ho_14
  refine zw_if (fun c2 => ?_) (fun c2 => ?_)
  · refine zw_some ?_
    first | exact True.intro | ((try dsimp only); first | with_reducible assumption | grind [zu_at, zu_atL, zvn] | ((repeat' apply And.intro) <;> first | with_reducible assumption | first | lia | grind [zu_at, zu_atL, zvn]))
  refine zw_if (fun c3 => ?_) (fun c3 => ?_)
  · refine zw_zb0 (sf_X5_stopAt 3 o_5_6) (fun o_24 ho_24 => ?_)
    obtain ⟨o_24_0, o_24_1, o_24_2⟩ := o_24
    try dsimp only at ho_24
    obtain ⟨ho_24_0, ho_24_1, ho_24_2⟩ := ho_24
    refine zw_some ?_
    first | exact True.intro | ((try dsimp only); first | with_reducible assumption | grind [zu_at, zu_atL, zvn] | ((repeat' apply And.intro) <;> first | with_reducible assumption | first | lia | grind [zu_at, zu_atL, zvn]))
  refine zw_zb0 (sf_X4_join o_5_1 o_14_1 v3_0 f7 (by first | with_reducible assumption | exact ⟨by with_reducible assumption, by with_reducible assumption⟩ | first | lia | grind [zu_at, zu_atL, zvn])) (fun o_20 ho_20 => ?_)
  refine zw_some ?_
  first | exact True.intro | ((try dsimp only); first | with_reducible assumption | grind [zu_at, zu_atL, zvn] | ((repeat' apply And.intro) <;> first | with_reducible assumption | first | lia | grind [zu_at, zu_atL, zvn]))
set_option maxHeartbeats 4000000 in
set_option maxRecDepth 100000 in
theorem sf_X5_readStatement (p2 : Int32) (v0_1 : Int32) (v0_2 : Int32) (v0_3 : Int32) (v1_2 : Int32) (v1_3 : Int32) (v1_4 : Int32) (v1_5 : Int32) (v1_6 : Int32) (v1_7 : Int32) (v2_0 : Int32) (v2_5 : Int32) (v3_0 : Int32) (v3_1 : Int32) (f4 : Nat → Int32) (f5 : Nat → Int32) (f6 : Nat → Int32) (f7 : Nat → Int32) (f8 : Nat → Int32) (f9 : Nat → Int32) (f10 : Nat → Int32) (f11 : Nat → Int32) (f12 : Nat → Int32) (f13 : Nat → Int32) (f14 : Nat → Int32) (f15 : Nat → Int32) (f16 : Nat → Int32) (f17 : Nat → Int32) (h_v1_2 : 0 ≤ v1_2 ∧ v1_2 ≤ 1200) (h_v1_3 : 0 ≤ v1_3 ∧ v1_3 ≤ 1200) (h_v1_4 : 0 ≤ v1_4 ∧ v1_4 ≤ 5) (h_v1_5 : 0 ≤ v1_5 ∧ v1_5 ≤ 1200) (h_v1_7 : (-1) ≤ v1_7 ∧ v1_7 ≤ 12) (h_v2_0 : 0 ≤ v2_0 ∧ v2_0 ≤ 4) (h_v3_0 : 0 ≤ v3_0 ∧ v3_0 ≤ 14) : zw (fn_X5_readStatement p2 v0_1 v0_2 v0_3 v1_2 v1_3 v1_4 v1_5 v1_6 v1_7 v2_0 v2_5 v3_0 v3_1 f4 f5 f6 f7 f8 f9 f10 f11 f12 f13 f14 f15 f16 f17) (fun r => 0 ≤ r.1 ∧ r.1 ≤ 1 ∧ 0 ≤ r.2.2.2.2.1 ∧ r.2.2.2.2.1 ≤ 1200 ∧ 0 ≤ r.2.2.2.2.2.1 ∧ r.2.2.2.2.2.1 ≤ 5 ∧ 0 ≤ r.2.2.2.2.2.2.1 ∧ r.2.2.2.2.2.2.1 ≤ 1200 ∧ (-1) ≤ r.2.2.2.2.2.2.2.2.1 ∧ r.2.2.2.2.2.2.2.2.1 ≤ 12 ∧ 0 ≤ r.2.2.2.2.2.2.2.2.2.1 ∧ r.2.2.2.2.2.2.2.2.2.1 ≤ 4 ∧ 0 ≤ r.2.2.2.2.2.2.2.2.2.2.2.1 ∧ r.2.2.2.2.2.2.2.2.2.2.2.1 ≤ 14) := by
  unfold fn_X5_readStatement
  refine zw_zb0 (sf_X5_startsStatement v1_7) (fun o_1 ho_1 => ?_)
  obtain ⟨ho_1_0, ho_1_1⟩ := ho_1
  refine zw_if (fun c1 => ?_) (fun c1 => ?_)
  · refine zw_zb0 (sf_X5_stopAt 1 v1_5) (fun o_90 ho_90 => ?_)
    obtain ⟨o_90_0, o_90_1, o_90_2⟩ := o_90
    try dsimp only at ho_90
    obtain ⟨ho_90_0, ho_90_1, ho_90_2⟩ := ho_90
    refine zw_some ?_
    first | exact True.intro | ((try dsimp only); first | with_reducible assumption | grind [zu_at, zu_atL, zvn] | ((repeat' apply And.intro) <;> first | with_reducible assumption | first | lia | grind [zu_at, zu_atL, zvn]))
  refine zw_if (fun c2 => ?_) (fun c2 => ?_)
  · refine zw_zb0 (sf_X5_stopAt 4 v1_5) (fun o_7 ho_7 => ?_)
    obtain ⟨o_7_0, o_7_1, o_7_2⟩ := o_7
    try dsimp only at ho_7
    obtain ⟨ho_7_0, ho_7_1, ho_7_2⟩ := ho_7
    refine zw_some ?_
    first | exact True.intro | ((try dsimp only); first | with_reducible assumption | grind [zu_at, zu_atL, zvn] | ((repeat' apply And.intro) <;> first | with_reducible assumption | first | lia | grind [zu_at, zu_atL, zvn]))
  refine zw_zb0 (sf_X5_isFull v1_7 v2_0 v3_0 (by first | with_reducible assumption | exact ⟨by with_reducible assumption, by with_reducible assumption⟩ | first | lia | grind [zu_at, zu_atL, zvn]) (by first | with_reducible assumption | exact ⟨by with_reducible assumption, by with_reducible assumption⟩ | first | lia | grind [zu_at, zu_atL, zvn])) (fun o_11 ho_11 => ?_)
  obtain ⟨ho_11_0, ho_11_1, ho_11_2, ho_11_3, ho_11_4, ho_11_5⟩ := ho_11
  refine zw_if (fun c3 => ?_) (fun c3 => ?_)
  · refine zw_zb0 (sf_X10_advance v1_2 v1_3 v1_4 f4 f5 (by first | with_reducible assumption | exact ⟨by with_reducible assumption, by with_reducible assumption⟩ | first | lia | grind [zu_at, zu_atL, zvn]) (by first | with_reducible assumption | exact ⟨by with_reducible assumption, by with_reducible assumption⟩ | first | lia | grind [zu_at, zu_atL, zvn]) (by first | with_reducible assumption | exact ⟨by with_reducible assumption, by with_reducible assumption⟩ | first | lia | grind [zu_at, zu_atL, zvn])) (fun o_16 ho_16 => ?_)
    obtain ⟨o_16_0, o_16_1, o_16_2, o_16_3, o_16_4⟩ := o_16
    try dsimp only at ho_16
    obtain ⟨ho_16_0, ho_16_1, ho_16_2, ho_16_3, ho_16_4, ho_16_5, ho_16_6, ho_16_7⟩ := ho_16
    refine zw_zj (fun s_20 => 0 ≤ s_20.1 ∧ s_20.1 ≤ 1 ∧ 0 ≤ s_20.2.2.2.2.1 ∧ s_20.2.2.2.2.1 ≤ 4 ∧ 0 ≤ s_20.2.2.2.2.2.2.1 ∧ s_20.2.2.2.2.2.2.1 ≤ 1200 ∧ 0 ≤ s_20.2.2.2.2.2.2.2.1 ∧ s_20.2.2.2.2.2.2.2.1 ≤ 5 ∧ 0 ≤ s_20.2.2.2.2.2.2.2.2.1 ∧ s_20.2.2.2.2.2.2.2.2.1 ≤ 1200 ∧ (-1) ≤ s_20.2.2.2.2.2.2.2.2.2.2.1 ∧ s_20.2.2.2.2.2.2.2.2.2.2.1 ≤ 12 ∧ 0 ≤ s_20.2.2.2.2.2.2.2.2.2.2.2.1 ∧ s_20.2.2.2.2.2.2.2.2.2.2.2.1 ≤ 14) (fun s_20 Hj_20 => ?_) (fun j_20 hj_20 => ?_)
    · obtain ⟨s_20_0, s_20_1, s_20_2, s_20_3, s_20_4, s_20_5, s_20_6, s_20_7, s_20_8, s_20_9, s_20_10, s_20_11, s_20_12, s_20_13, s_20_14, s_20_15, s_20_16, s_20_17, s_20_18, s_20_19, s_20_20, s_20_21, s_20_22, s_20_23, s_20_24⟩ := s_20
      try dsimp only at Hj_20
      obtain ⟨Hj_20_0, Hj_20_1, Hj_20_2, Hj_20_3, Hj_20_4, Hj_20_5, Hj_20_6, Hj_20_7, Hj_20_8, Hj_20_9, Hj_20_10, Hj_20_11, Hj_20_12, Hj_20_13⟩ := Hj_20
      refine zw_if (fun c4 => ?_) (fun c4 => ?_)
      · refine zw_some ?_
        first | exact True.intro | ((try dsimp only); first | with_reducible assumption | grind [zu_at, zu_atL, zvn] | ((repeat' apply And.intro) <;> first | with_reducible assumption | ((try clear hj_20); first | lia | grind [zu_at, zu_atL, zvn])))
      refine zw_zb0 (sf_X5_readSign 59 s_20_2 s_20_3 v1_2 s_20_6 s_20_7 s_20_8 s_20_9 s_20_10 f4 f5 (by first | with_reducible assumption | exact ⟨by with_reducible assumption, by with_reducible assumption⟩ | ((try clear hj_20); first | lia | grind [zu_at, zu_atL, zvn])) (by first | with_reducible assumption | exact ⟨by with_reducible assumption, by with_reducible assumption⟩ | ((try clear hj_20); first | lia | grind [zu_at, zu_atL, zvn])) (by first | with_reducible assumption | exact ⟨by with_reducible assumption, by with_reducible assumption⟩ | ((try clear hj_20); first | lia | grind [zu_at, zu_atL, zvn])) (by first | with_reducible assumption | exact ⟨by with_reducible assumption, by with_reducible assumption⟩ | ((try clear hj_20); first | lia | grind [zu_at, zu_atL, zvn])) (by first | with_reducible assumption | exact ⟨by with_reducible assumption, by with_reducible assumption⟩ | ((try clear hj_20); first | lia | grind [zu_at, zu_atL, zvn]))) (fun o_22 ho_22 => ?_)
      obtain ⟨o_22_0, o_22_1, o_22_2, o_22_3, o_22_4, o_22_5, o_22_6, o_22_7⟩ := o_22
      try dsimp only at ho_22
      obtain ⟨ho_22_0, ho_22_1, ho_22_2, ho_22_3, ho_22_4, ho_22_5, ho_22_6, ho_22_7, ho_22_8, ho_22_9⟩ := ho_22
      refine zw_if (fun c5 => ?_) (fun c5 => ?_)
      · refine zw_some ?_
        first | exact True.intro | ((try dsimp only); first | with_reducible assumption | grind [zu_at, zu_atL, zvn] | ((repeat' apply And.intro) <;> first | with_reducible assumption | ((try clear hj_20); first | lia | grind [zu_at, zu_atL, zvn])))
      refine zw_some ?_
      first | exact True.intro | ((try dsimp only); first | with_reducible assumption | grind [zu_at, zu_atL, zvn] | ((repeat' apply And.intro) <;> first | with_reducible assumption | ((try clear hj_20); first | lia | grind [zu_at, zu_atL, zvn])))
    refine zw_if (fun c6 => ?_) (fun c6 => ?_)
    · refine zw_zb0 (sf_X5_readFormat v0_1 v0_2 v0_3 v1_2 o_16_0 o_16_1 o_16_2 o_16_3 o_16_4 v2_0 f6 v3_0 f7 f4 f5 f8 f9 f10 (by first | with_reducible assumption | exact ⟨by with_reducible assumption, by with_reducible assumption⟩ | ((try clear hj_20); first | lia | grind [zu_at, zu_atL, zvn])) (by first | with_reducible assumption | exact ⟨by with_reducible assumption, by with_reducible assumption⟩ | ((try clear hj_20); first | lia | grind [zu_at, zu_atL, zvn])) (by first | with_reducible assumption | exact ⟨by with_reducible assumption, by with_reducible assumption⟩ | ((try clear hj_20); first | lia | grind [zu_at, zu_atL, zvn])) (by first | with_reducible assumption | exact ⟨by with_reducible assumption, by with_reducible assumption⟩ | ((try clear hj_20); first | lia | grind [zu_at, zu_atL, zvn])) (by first | with_reducible assumption | exact ⟨by with_reducible assumption, by with_reducible assumption⟩ | ((try clear hj_20); first | lia | grind [zu_at, zu_atL, zvn])) (by first | with_reducible assumption | exact ⟨by with_reducible assumption, by with_reducible assumption⟩ | ((try clear hj_20); first | lia | grind [zu_at, zu_atL, zvn])) (by first | with_reducible assumption | exact ⟨by with_reducible assumption, by with_reducible assumption⟩ | ((try clear hj_20); first | lia | grind [zu_at, zu_atL, zvn]))) (fun o_28 ho_28 => ?_)
      obtain ⟨o_28_0, o_28_1, o_28_2, o_28_3, o_28_4, o_28_5, o_28_6, o_28_7, o_28_8, o_28_9, o_28_10, o_28_11, o_28_12, o_28_13⟩ := o_28
      try dsimp only at ho_28
      obtain ⟨ho_28_0, ho_28_1, ho_28_2, ho_28_3, ho_28_4, ho_28_5, ho_28_6, ho_28_7, ho_28_8, ho_28_9, ho_28_10, ho_28_11⟩ := ho_28
      exact hj_20 _ (by first | exact True.intro | ((try dsimp only); first | with_reducible assumption | grind [zu_at, zu_atL, zvn] | ((repeat' apply And.intro) <;> first | with_reducible assumption | ((try clear hj_20); first | lia | grind [zu_at, zu_atL, zvn]))))
    refine zw_if (fun c7 => ?_) (fun c7 => ?_)
    · refine zw_zb0 (sf_X5_readAnswer v0_1 v0_2 v0_3 v1_2 o_16_0 o_16_1 o_16_2 o_16_3 o_16_4 v3_0 f7 f4 f5 f11 (by first | with_reducible assumption | exact ⟨by with_reducible assumption, by with_reducible assumption⟩ | ((try clear hj_20); first | lia | grind [zu_at, zu_atL, zvn])) (by first | with_reducible assumption | exact ⟨by with_reducible assumption, by with_reducible assumption⟩ | ((try clear hj_20); first | lia | grind [zu_at, zu_atL, zvn])) (by first | with_reducible assumption | exact ⟨by with_reducible assumption, by with_reducible assumption⟩ | ((try clear hj_20); first | lia | grind [zu_at, zu_atL, zvn])) (by first | with_reducible assumption | exact ⟨by with_reducible assumption, by with_reducible assumption⟩ | ((try clear hj_20); first | lia | grind [zu_at, zu_atL, zvn])) (by first | with_reducible assumption | exact ⟨by with_reducible assumption, by with_reducible assumption⟩ | ((try clear hj_20); first | lia | grind [zu_at, zu_atL, zvn])) (by first | with_reducible assumption | exact ⟨by with_reducible assumption, by with_reducible assumption⟩ | ((try clear hj_20); first | lia | grind [zu_at, zu_atL, zvn]))) (fun o_33 ho_33 => ?_)
      obtain ⟨o_33_0, o_33_1, o_33_2, o_33_3, o_33_4, o_33_5, o_33_6, o_33_7, o_33_8, o_33_9⟩ := o_33
      try dsimp only at ho_33
      obtain ⟨ho_33_0, ho_33_1, ho_33_2, ho_33_3, ho_33_4, ho_33_5, ho_33_6, ho_33_7, ho_33_8, ho_33_9⟩ := ho_33
      exact hj_20 _ (by first | exact True.intro | ((try dsimp only); first | with_reducible assumption | grind [zu_at, zu_atL, zvn] | ((repeat' apply And.intro) <;> first | with_reducible assumption | ((try clear hj_20); first | lia | grind [zu_at, zu_atL, zvn]))))
    refine zw_if (fun c8 => ?_) (fun c8 => ?_)
    · refine zw_zb0 (sf_X5_readAnswer v0_1 v0_2 v0_3 v1_2 o_16_0 o_16_1 o_16_2 o_16_3 o_16_4 v3_0 f7 f4 f5 f11 (by first | with_reducible assumption | exact ⟨by with_reducible assumption, by with_reducible assumption⟩ | ((try clear hj_20); first | lia | grind [zu_at, zu_atL, zvn])) (by first | with_reducible assumption | exact ⟨by with_reducible assumption, by with_reducible assumption⟩ | ((try clear hj_20); first | lia | grind [zu_at, zu_atL, zvn])) (by first | with_reducible assumption | exact ⟨by with_reducible assumption, by with_reducible assumption⟩ | ((try clear hj_20); first | lia | grind [zu_at, zu_atL, zvn])) (by first | with_reducible assumption | exact ⟨by with_reducible assumption, by with_reducible assumption⟩ | ((try clear hj_20); first | lia | grind [zu_at, zu_atL, zvn])) (by first | with_reducible assumption | exact ⟨by with_reducible assumption, by with_reducible assumption⟩ | ((try clear hj_20); first | lia | grind [zu_at, zu_atL, zvn])) (by first | with_reducible assumption | exact ⟨by with_reducible assumption, by with_reducible assumption⟩ | ((try clear hj_20); first | lia | grind [zu_at, zu_atL, zvn]))) (fun o_38 ho_38 => ?_)
      obtain ⟨o_38_0, o_38_1, o_38_2, o_38_3, o_38_4, o_38_5, o_38_6, o_38_7, o_38_8, o_38_9⟩ := o_38
      try dsimp only at ho_38
      obtain ⟨ho_38_0, ho_38_1, ho_38_2, ho_38_3, ho_38_4, ho_38_5, ho_38_6, ho_38_7, ho_38_8, ho_38_9⟩ := ho_38
      exact hj_20 _ (by first | exact True.intro | ((try dsimp only); first | with_reducible assumption | grind [zu_at, zu_atL, zvn] | ((repeat' apply And.intro) <;> first | with_reducible assumption | ((try clear hj_20); first | lia | grind [zu_at, zu_atL, zvn]))))
    refine zw_if (fun c9 => ?_) (fun c9 => ?_)
    · refine zw_zb0 (sf_X5_readAnswer v0_1 v0_2 v0_3 v1_2 o_16_0 o_16_1 o_16_2 o_16_3 o_16_4 v3_0 f7 f4 f5 f11 (by first | with_reducible assumption | exact ⟨by with_reducible assumption, by with_reducible assumption⟩ | ((try clear hj_20); first | lia | grind [zu_at, zu_atL, zvn])) (by first | with_reducible assumption | exact ⟨by with_reducible assumption, by with_reducible assumption⟩ | ((try clear hj_20); first | lia | grind [zu_at, zu_atL, zvn])) (by first | with_reducible assumption | exact ⟨by with_reducible assumption, by with_reducible assumption⟩ | ((try clear hj_20); first | lia | grind [zu_at, zu_atL, zvn])) (by first | with_reducible assumption | exact ⟨by with_reducible assumption, by with_reducible assumption⟩ | ((try clear hj_20); first | lia | grind [zu_at, zu_atL, zvn])) (by first | with_reducible assumption | exact ⟨by with_reducible assumption, by with_reducible assumption⟩ | ((try clear hj_20); first | lia | grind [zu_at, zu_atL, zvn])) (by first | with_reducible assumption | exact ⟨by with_reducible assumption, by with_reducible assumption⟩ | ((try clear hj_20); first | lia | grind [zu_at, zu_atL, zvn]))) (fun o_43 ho_43 => ?_)
      obtain ⟨o_43_0, o_43_1, o_43_2, o_43_3, o_43_4, o_43_5, o_43_6, o_43_7, o_43_8, o_43_9⟩ := o_43
      try dsimp only at ho_43
      obtain ⟨ho_43_0, ho_43_1, ho_43_2, ho_43_3, ho_43_4, ho_43_5, ho_43_6, ho_43_7, ho_43_8, ho_43_9⟩ := ho_43
      exact hj_20 _ (by first | exact True.intro | ((try dsimp only); first | with_reducible assumption | grind [zu_at, zu_atL, zvn] | ((repeat' apply And.intro) <;> first | with_reducible assumption | ((try clear hj_20); first | lia | grind [zu_at, zu_atL, zvn]))))
    refine zw_if (fun c10 => ?_) (fun c10 => ?_)
    · refine zw_zb0 (sf_X5_readCast v0_1 v0_2 v0_3 v1_2 o_16_0 o_16_1 o_16_2 o_16_3 o_16_4 f4 f5 v2_5 (by first | with_reducible assumption | exact ⟨by with_reducible assumption, by with_reducible assumption⟩ | ((try clear hj_20); first | lia | grind [zu_at, zu_atL, zvn])) (by first | with_reducible assumption | exact ⟨by with_reducible assumption, by with_reducible assumption⟩ | ((try clear hj_20); first | lia | grind [zu_at, zu_atL, zvn])) (by first | with_reducible assumption | exact ⟨by with_reducible assumption, by with_reducible assumption⟩ | ((try clear hj_20); first | lia | grind [zu_at, zu_atL, zvn])) (by first | with_reducible assumption | exact ⟨by with_reducible assumption, by with_reducible assumption⟩ | ((try clear hj_20); first | lia | grind [zu_at, zu_atL, zvn])) (by first | with_reducible assumption | exact ⟨by with_reducible assumption, by with_reducible assumption⟩ | ((try clear hj_20); first | lia | grind [zu_at, zu_atL, zvn]))) (fun o_48 ho_48 => ?_)
      obtain ⟨o_48_0, o_48_1, o_48_2, o_48_3, o_48_4, o_48_5, o_48_6, o_48_7, o_48_8, o_48_9⟩ := o_48
      try dsimp only at ho_48
      obtain ⟨ho_48_0, ho_48_1, ho_48_2, ho_48_3, ho_48_4, ho_48_5, ho_48_6, ho_48_7, ho_48_8, ho_48_9⟩ := ho_48
      exact hj_20 _ (by first | exact True.intro | ((try dsimp only); first | with_reducible assumption | grind [zu_at, zu_atL, zvn] | ((repeat' apply And.intro) <;> first | with_reducible assumption | ((try clear hj_20); first | lia | grind [zu_at, zu_atL, zvn]))))
    refine zw_if (fun c11 => ?_) (fun c11 => ?_)
    · refine zw_zb0 (sf_X5_readBox v0_1 v0_2 v0_3 v1_2 o_16_0 o_16_1 o_16_2 o_16_3 o_16_4 v2_0 f6 v3_0 v3_1 f7 f4 f5 f12 f13 f14 f15 f11 f16 f17 (by first | with_reducible assumption | exact ⟨by with_reducible assumption, by with_reducible assumption⟩ | ((try clear hj_20); first | lia | grind [zu_at, zu_atL, zvn])) (by first | with_reducible assumption | exact ⟨by with_reducible assumption, by with_reducible assumption⟩ | ((try clear hj_20); first | lia | grind [zu_at, zu_atL, zvn])) (by first | with_reducible assumption | exact ⟨by with_reducible assumption, by with_reducible assumption⟩ | ((try clear hj_20); first | lia | grind [zu_at, zu_atL, zvn])) (by first | with_reducible assumption | exact ⟨by with_reducible assumption, by with_reducible assumption⟩ | ((try clear hj_20); first | lia | grind [zu_at, zu_atL, zvn])) (by first | with_reducible assumption | exact ⟨by with_reducible assumption, by with_reducible assumption⟩ | ((try clear hj_20); first | lia | grind [zu_at, zu_atL, zvn])) (by first | with_reducible assumption | exact ⟨by with_reducible assumption, by with_reducible assumption⟩ | ((try clear hj_20); first | lia | grind [zu_at, zu_atL, zvn])) (by first | with_reducible assumption | exact ⟨by with_reducible assumption, by with_reducible assumption⟩ | ((try clear hj_20); first | lia | grind [zu_at, zu_atL, zvn]))) (fun o_53 ho_53 => ?_)
      obtain ⟨o_53_0, o_53_1, o_53_2, o_53_3, o_53_4, o_53_5, o_53_6, o_53_7, o_53_8, o_53_9, o_53_10, o_53_11, o_53_12, o_53_13, o_53_14, o_53_15, o_53_16, o_53_17, o_53_18⟩ := o_53
      try dsimp only at ho_53
      obtain ⟨ho_53_0, ho_53_1, ho_53_2, ho_53_3, ho_53_4, ho_53_5, ho_53_6, ho_53_7, ho_53_8, ho_53_9, ho_53_10, ho_53_11⟩ := ho_53
      exact hj_20 _ (by first | exact True.intro | ((try dsimp only); first | with_reducible assumption | grind [zu_at, zu_atL, zvn] | ((repeat' apply And.intro) <;> first | with_reducible assumption | ((try clear hj_20); first | lia | grind [zu_at, zu_atL, zvn]))))
    refine zw_if (fun c12 => ?_) (fun c12 => ?_)
    · refine zw_zb0 (sf_X5_readLet v0_1 v0_2 v0_3 v1_2 o_16_0 o_16_1 o_16_2 o_16_3 o_16_4 v2_0 f6 v3_0 v3_1 f7 f4 f5 f12 f13 f14 f15 f11 f16 f17 (by first | with_reducible assumption | exact ⟨by with_reducible assumption, by with_reducible assumption⟩ | ((try clear hj_20); first | lia | grind [zu_at, zu_atL, zvn])) (by first | with_reducible assumption | exact ⟨by with_reducible assumption, by with_reducible assumption⟩ | ((try clear hj_20); first | lia | grind [zu_at, zu_atL, zvn])) (by first | with_reducible assumption | exact ⟨by with_reducible assumption, by with_reducible assumption⟩ | ((try clear hj_20); first | lia | grind [zu_at, zu_atL, zvn])) (by first | with_reducible assumption | exact ⟨by with_reducible assumption, by with_reducible assumption⟩ | ((try clear hj_20); first | lia | grind [zu_at, zu_atL, zvn])) (by first | with_reducible assumption | exact ⟨by with_reducible assumption, by with_reducible assumption⟩ | ((try clear hj_20); first | lia | grind [zu_at, zu_atL, zvn])) (by first | with_reducible assumption | exact ⟨by with_reducible assumption, by with_reducible assumption⟩ | ((try clear hj_20); first | lia | grind [zu_at, zu_atL, zvn])) (by first | with_reducible assumption | exact ⟨by with_reducible assumption, by with_reducible assumption⟩ | ((try clear hj_20); first | lia | grind [zu_at, zu_atL, zvn]))) (fun o_58 ho_58 => ?_)
      obtain ⟨o_58_0, o_58_1, o_58_2, o_58_3, o_58_4, o_58_5, o_58_6, o_58_7, o_58_8, o_58_9, o_58_10, o_58_11, o_58_12, o_58_13, o_58_14, o_58_15, o_58_16, o_58_17, o_58_18⟩ := o_58
      try dsimp only at ho_58
      obtain ⟨ho_58_0, ho_58_1, ho_58_2, ho_58_3, ho_58_4, ho_58_5, ho_58_6, ho_58_7, ho_58_8, ho_58_9, ho_58_10, ho_58_11⟩ := ho_58
      exact hj_20 _ (by first | exact True.intro | ((try dsimp only); first | with_reducible assumption | grind [zu_at, zu_atL, zvn] | ((repeat' apply And.intro) <;> first | with_reducible assumption | ((try clear hj_20); first | lia | grind [zu_at, zu_atL, zvn]))))
    refine zw_if (fun c13 => ?_) (fun c13 => ?_)
    · refine zw_zb0 (sf_X5_readAnswer v0_1 v0_2 v0_3 v1_2 o_16_0 o_16_1 o_16_2 o_16_3 o_16_4 v3_0 f7 f4 f5 f11 (by first | with_reducible assumption | exact ⟨by with_reducible assumption, by with_reducible assumption⟩ | ((try clear hj_20); first | lia | grind [zu_at, zu_atL, zvn])) (by first | with_reducible assumption | exact ⟨by with_reducible assumption, by with_reducible assumption⟩ | ((try clear hj_20); first | lia | grind [zu_at, zu_atL, zvn])) (by first | with_reducible assumption | exact ⟨by with_reducible assumption, by with_reducible assumption⟩ | ((try clear hj_20); first | lia | grind [zu_at, zu_atL, zvn])) (by first | with_reducible assumption | exact ⟨by with_reducible assumption, by with_reducible assumption⟩ | ((try clear hj_20); first | lia | grind [zu_at, zu_atL, zvn])) (by first | with_reducible assumption | exact ⟨by with_reducible assumption, by with_reducible assumption⟩ | ((try clear hj_20); first | lia | grind [zu_at, zu_atL, zvn])) (by first | with_reducible assumption | exact ⟨by with_reducible assumption, by with_reducible assumption⟩ | ((try clear hj_20); first | lia | grind [zu_at, zu_atL, zvn]))) (fun o_63 ho_63 => ?_)
      obtain ⟨o_63_0, o_63_1, o_63_2, o_63_3, o_63_4, o_63_5, o_63_6, o_63_7, o_63_8, o_63_9⟩ := o_63
      try dsimp only at ho_63
      obtain ⟨ho_63_0, ho_63_1, ho_63_2, ho_63_3, ho_63_4, ho_63_5, ho_63_6, ho_63_7, ho_63_8, ho_63_9⟩ := ho_63
      exact hj_20 _ (by first | exact True.intro | ((try dsimp only); first | with_reducible assumption | grind [zu_at, zu_atL, zvn] | ((repeat' apply And.intro) <;> first | with_reducible assumption | ((try clear hj_20); first | lia | grind [zu_at, zu_atL, zvn]))))
    refine zw_if (fun c14 => ?_) (fun c14 => ?_)
    · refine zw_zb0 (sf_X5_readAnswer v0_1 v0_2 v0_3 v1_2 o_16_0 o_16_1 o_16_2 o_16_3 o_16_4 v3_0 f7 f4 f5 f11 (by first | with_reducible assumption | exact ⟨by with_reducible assumption, by with_reducible assumption⟩ | ((try clear hj_20); first | lia | grind [zu_at, zu_atL, zvn])) (by first | with_reducible assumption | exact ⟨by with_reducible assumption, by with_reducible assumption⟩ | ((try clear hj_20); first | lia | grind [zu_at, zu_atL, zvn])) (by first | with_reducible assumption | exact ⟨by with_reducible assumption, by with_reducible assumption⟩ | ((try clear hj_20); first | lia | grind [zu_at, zu_atL, zvn])) (by first | with_reducible assumption | exact ⟨by with_reducible assumption, by with_reducible assumption⟩ | ((try clear hj_20); first | lia | grind [zu_at, zu_atL, zvn])) (by first | with_reducible assumption | exact ⟨by with_reducible assumption, by with_reducible assumption⟩ | ((try clear hj_20); first | lia | grind [zu_at, zu_atL, zvn])) (by first | with_reducible assumption | exact ⟨by with_reducible assumption, by with_reducible assumption⟩ | ((try clear hj_20); first | lia | grind [zu_at, zu_atL, zvn]))) (fun o_68 ho_68 => ?_)
      obtain ⟨o_68_0, o_68_1, o_68_2, o_68_3, o_68_4, o_68_5, o_68_6, o_68_7, o_68_8, o_68_9⟩ := o_68
      try dsimp only at ho_68
      obtain ⟨ho_68_0, ho_68_1, ho_68_2, ho_68_3, ho_68_4, ho_68_5, ho_68_6, ho_68_7, ho_68_8, ho_68_9⟩ := ho_68
      exact hj_20 _ (by first | exact True.intro | ((try dsimp only); first | with_reducible assumption | grind [zu_at, zu_atL, zvn] | ((repeat' apply And.intro) <;> first | with_reducible assumption | ((try clear hj_20); first | lia | grind [zu_at, zu_atL, zvn]))))
    refine zw_if (fun c15 => ?_) (fun c15 => ?_)
    · refine zw_zb0 (sf_X5_readFixed v0_1 v0_2 v0_3 v2_0 v1_2 o_16_0 o_16_1 o_16_2 o_16_3 o_16_4 v3_0 f7 f4 f5 f6 f15 (by first | with_reducible assumption | exact ⟨by with_reducible assumption, by with_reducible assumption⟩ | ((try clear hj_20); first | lia | grind [zu_at, zu_atL, zvn])) (by first | with_reducible assumption | exact ⟨by with_reducible assumption, by with_reducible assumption⟩ | ((try clear hj_20); first | lia | grind [zu_at, zu_atL, zvn])) (by first | with_reducible assumption | exact ⟨by with_reducible assumption, by with_reducible assumption⟩ | ((try clear hj_20); first | lia | grind [zu_at, zu_atL, zvn])) (by first | with_reducible assumption | exact ⟨by with_reducible assumption, by with_reducible assumption⟩ | ((try clear hj_20); first | lia | grind [zu_at, zu_atL, zvn])) (by first | with_reducible assumption | exact ⟨by with_reducible assumption, by with_reducible assumption⟩ | ((try clear hj_20); first | lia | grind [zu_at, zu_atL, zvn])) (by first | with_reducible assumption | exact ⟨by with_reducible assumption, by with_reducible assumption⟩ | ((try clear hj_20); first | lia | grind [zu_at, zu_atL, zvn])) (by first | with_reducible assumption | exact ⟨by with_reducible assumption, by with_reducible assumption⟩ | ((try clear hj_20); first | lia | grind [zu_at, zu_atL, zvn]))) (fun o_73 ho_73 => ?_)
      obtain ⟨o_73_0, o_73_1, o_73_2, o_73_3, o_73_4, o_73_5, o_73_6, o_73_7, o_73_8, o_73_9⟩ := o_73
      try dsimp only at ho_73
      obtain ⟨ho_73_0, ho_73_1, ho_73_2, ho_73_3, ho_73_4, ho_73_5, ho_73_6, ho_73_7, ho_73_8, ho_73_9⟩ := ho_73
      exact hj_20 _ (by first | exact True.intro | ((try dsimp only); first | with_reducible assumption | grind [zu_at, zu_atL, zvn] | ((repeat' apply And.intro) <;> first | with_reducible assumption | ((try clear hj_20); first | lia | grind [zu_at, zu_atL, zvn]))))
    refine zw_if (fun c16 => ?_) (fun c16 => ?_)
    · refine zw_zb0 (sf_X5_readGroup v0_1 v0_2 v0_3 v1_2 o_16_0 o_16_1 o_16_2 o_16_3 o_16_4 v3_0 f7 f4 f5 f16 (by first | with_reducible assumption | exact ⟨by with_reducible assumption, by with_reducible assumption⟩ | ((try clear hj_20); first | lia | grind [zu_at, zu_atL, zvn])) (by first | with_reducible assumption | exact ⟨by with_reducible assumption, by with_reducible assumption⟩ | ((try clear hj_20); first | lia | grind [zu_at, zu_atL, zvn])) (by first | with_reducible assumption | exact ⟨by with_reducible assumption, by with_reducible assumption⟩ | ((try clear hj_20); first | lia | grind [zu_at, zu_atL, zvn])) (by first | with_reducible assumption | exact ⟨by with_reducible assumption, by with_reducible assumption⟩ | ((try clear hj_20); first | lia | grind [zu_at, zu_atL, zvn])) (by first | with_reducible assumption | exact ⟨by with_reducible assumption, by with_reducible assumption⟩ | ((try clear hj_20); first | lia | grind [zu_at, zu_atL, zvn])) (by first | with_reducible assumption | exact ⟨by with_reducible assumption, by with_reducible assumption⟩ | ((try clear hj_20); first | lia | grind [zu_at, zu_atL, zvn]))) (fun o_78 ho_78 => ?_)
      obtain ⟨o_78_0, o_78_1, o_78_2, o_78_3, o_78_4, o_78_5, o_78_6, o_78_7, o_78_8, o_78_9⟩ := o_78
      try dsimp only at ho_78
      obtain ⟨ho_78_0, ho_78_1, ho_78_2, ho_78_3, ho_78_4, ho_78_5, ho_78_6, ho_78_7, ho_78_8, ho_78_9⟩ := ho_78
      exact hj_20 _ (by first | exact True.intro | ((try dsimp only); first | with_reducible assumption | grind [zu_at, zu_atL, zvn] | ((repeat' apply And.intro) <;> first | with_reducible assumption | ((try clear hj_20); first | lia | grind [zu_at, zu_atL, zvn]))))
    refine zw_zb0 (sf_X5_readAnswer v0_1 v0_2 v0_3 v1_2 o_16_0 o_16_1 o_16_2 o_16_3 o_16_4 v3_0 f7 f4 f5 f11 (by first | with_reducible assumption | exact ⟨by with_reducible assumption, by with_reducible assumption⟩ | ((try clear hj_20); first | lia | grind [zu_at, zu_atL, zvn])) (by first | with_reducible assumption | exact ⟨by with_reducible assumption, by with_reducible assumption⟩ | ((try clear hj_20); first | lia | grind [zu_at, zu_atL, zvn])) (by first | with_reducible assumption | exact ⟨by with_reducible assumption, by with_reducible assumption⟩ | ((try clear hj_20); first | lia | grind [zu_at, zu_atL, zvn])) (by first | with_reducible assumption | exact ⟨by with_reducible assumption, by with_reducible assumption⟩ | ((try clear hj_20); first | lia | grind [zu_at, zu_atL, zvn])) (by first | with_reducible assumption | exact ⟨by with_reducible assumption, by with_reducible assumption⟩ | ((try clear hj_20); first | lia | grind [zu_at, zu_atL, zvn])) (by first | with_reducible assumption | exact ⟨by with_reducible assumption, by with_reducible assumption⟩ | ((try clear hj_20); first | lia | grind [zu_at, zu_atL, zvn]))) (fun o_82 ho_82 => ?_)
    obtain ⟨o_82_0, o_82_1, o_82_2, o_82_3, o_82_4, o_82_5, o_82_6, o_82_7, o_82_8, o_82_9⟩ := o_82
    try dsimp only at ho_82
    obtain ⟨ho_82_0, ho_82_1, ho_82_2, ho_82_3, ho_82_4, ho_82_5, ho_82_6, ho_82_7, ho_82_8, ho_82_9⟩ := ho_82
    exact hj_20 _ (by first | exact True.intro | ((try dsimp only); first | with_reducible assumption | grind [zu_at, zu_atL, zvn] | ((repeat' apply And.intro) <;> first | with_reducible assumption | ((try clear hj_20); first | lia | grind [zu_at, zu_atL, zvn]))))
  refine zw_zb0 (sf_X5_stopAt 4 v1_5) (fun o_86 ho_86 => ?_)
  obtain ⟨o_86_0, o_86_1, o_86_2⟩ := o_86
  try dsimp only at ho_86
  obtain ⟨ho_86_0, ho_86_1, ho_86_2⟩ := ho_86
  refine zw_some ?_
  first | exact True.intro | ((try dsimp only); first | with_reducible assumption | grind [zu_at, zu_atL, zvn] | ((repeat' apply And.intro) <;> first | with_reducible assumption | ((try clear hj_20); first | lia | grind [zu_at, zu_atL, zvn])))
set_option maxHeartbeats 4000000 in
set_option maxRecDepth 100000 in
theorem sf_X5_read (p2 : Int32) (v0_1 : Int32) (f4 : Nat → Int32) (f5 : Nat → Int32) (f6 : Nat → Int32) (f7 : Nat → Int32) (f8 : Nat → Int32) (f9 : Nat → Int32) (f10 : Nat → Int32) (f11 : Nat → Int32) (f12 : Nat → Int32) (f13 : Nat → Int32) (f14 : Nat → Int32) (f15 : Nat → Int32) (f16 : Nat → Int32) (f17 : Nat → Int32) : zw (fn_X5_read p2 v0_1 f4 f5 f6 f7 f8 f9 f10 f11 f12 f13 f14 f15 f16 f17) (fun r => 0 ≤ r.1 ∧ r.1 ≤ 1 ∧ 0 ≤ r.2.2.2.2.1 ∧ r.2.2.2.2.1 ≤ 4 ∧ 0 ≤ r.2.2.2.2.2.2.1 ∧ r.2.2.2.2.2.2.1 ≤ 14 ∧ 0 ≤ r.2.2.2.2.2.2.2.2.1 ∧ r.2.2.2.2.2.2.2.2.1 ≤ 1200 ∧ 0 ≤ r.2.2.2.2.2.2.2.2.2.1 ∧ r.2.2.2.2.2.2.2.2.2.1 ≤ 1200 ∧ 0 ≤ r.2.2.2.2.2.2.2.2.2.2.1 ∧ r.2.2.2.2.2.2.2.2.2.2.1 ≤ 5 ∧ 0 ≤ r.2.2.2.2.2.2.2.2.2.2.2.1 ∧ r.2.2.2.2.2.2.2.2.2.2.2.1 ≤ 1200 ∧ (-1) ≤ r.2.2.2.2.2.2.2.2.2.2.2.2.2.1 ∧ r.2.2.2.2.2.2.2.2.2.2.2.2.2.1 ≤ 12) := by
  unfold fn_X5_read
  refine zw_zb0 (sf_X9_clear) (fun o_1 ho_1 => ?_)
  obtain ⟨o_1_0, o_1_1, o_1_2, o_1_3⟩ := o_1
  try dsimp only at ho_1
  obtain ⟨ho_1_0, ho_1_1, ho_1_2, ho_1_3, ho_1_4, ho_1_5, ho_1_6, ho_1_7, ho_1_8, ho_1_9⟩ := ho_1
  refine zw_zb0 (sf_X10_open p2 f4 f5) (fun o_5 ho_5 => ?_)
  obtain ⟨o_5_0, o_5_1, o_5_2, o_5_3, o_5_4, o_5_5⟩ := o_5
  try dsimp only at ho_5
  obtain ⟨ho_5_0, ho_5_1, ho_5_2, ho_5_3, ho_5_4, ho_5_5, ho_5_6, ho_5_7, ho_5_8, ho_5_9⟩ := ho_5
  refine zw_zl32 (fun s_9 => 0 ≤ s_9.1 ∧ s_9.1 ≤ 41 ∧ 0 ≤ s_9.2.2.2.2.1 ∧ s_9.2.2.2.2.1 ≤ 4 ∧ 0 ≤ s_9.2.2.2.2.2.2.1 ∧ s_9.2.2.2.2.2.2.1 ≤ 1200 ∧ 0 ≤ s_9.2.2.2.2.2.2.2.1 ∧ s_9.2.2.2.2.2.2.2.1 ≤ 5 ∧ 0 ≤ s_9.2.2.2.2.2.2.2.2.1 ∧ s_9.2.2.2.2.2.2.2.2.1 ≤ 1200 ∧ (-1) ≤ s_9.2.2.2.2.2.2.2.2.2.2.1 ∧ s_9.2.2.2.2.2.2.2.2.2.2.1 ≤ 12 ∧ 0 ≤ s_9.2.2.2.2.2.2.2.2.2.2.2.1 ∧ s_9.2.2.2.2.2.2.2.2.2.2.2.1 ≤ 14) (fun s_9 => 41 - s_9.1) (by (try dsimp only); first | with_reducible assumption | grind [zu_at, zu_atL, zvn] | ((repeat' apply And.intro) <;> first | with_reducible assumption | first | lia | grind [zu_at, zu_atL, zvn])) (by (try dsimp only); first | lia | grind [zu_at, zu_atL, zvn]) (fun s_9 back_9 Hback_9 hback_9 => ?_)
  obtain ⟨s_9_0, s_9_1, s_9_2, s_9_3, s_9_4, s_9_5, s_9_6, s_9_7, s_9_8, s_9_9, s_9_10, s_9_11, s_9_12, s_9_13, s_9_14, s_9_15, s_9_16, s_9_17, s_9_18, s_9_19, s_9_20, s_9_21, s_9_22, s_9_23, s_9_24⟩ := s_9
  try dsimp only at Hback_9 hback_9
  obtain ⟨Hback_9_0, Hback_9_1, Hback_9_2, Hback_9_3, Hback_9_4, Hback_9_5, Hback_9_6, Hback_9_7, Hback_9_8, Hback_9_9, Hback_9_10, Hback_9_11, Hback_9_12, Hback_9_13⟩ := Hback_9
  refine zw_zj (fun _ => True) (fun s_10 Hj_10 => ?_) (fun j_10 hj_10 => ?_)
  · refine zw_zj (fun s_11 => (s_11 = 0 ∨ 1 ≤ s_9_4 ∧ 1 ≤ s_9_11) ∧ 0 ≤ s_11 ∧ s_11 ≤ 1) (fun s_11 Hj_11 => ?_) (fun j_11 hj_11 => ?_)
    · obtain ⟨Hj_11_0, Hj_11_1, Hj_11_2⟩ := Hj_11
      refine zw_if (fun c1 => ?_) (fun c1 => ?_)
      · refine zw_zb0 (sf_X5_stopAt 4 p2) (fun o_13 ho_13 => ?_)
        obtain ⟨o_13_0, o_13_1, o_13_2⟩ := o_13
        try dsimp only at ho_13
        obtain ⟨ho_13_0, ho_13_1, ho_13_2⟩ := ho_13
        refine zw_if (fun c2 => ?_) (fun c2 => ?_)
        · refine zw_some ?_
          first | exact True.intro | ((try dsimp only); first | with_reducible assumption | grind [zu_at, zu_atL, zvn] | ((repeat' apply And.intro) <;> first | with_reducible assumption | ((try clear hback_9); (try clear hj_10); (try clear hj_11); first | lia | grind [zu_at, zu_atL, zvn])))
        refine zw_some ?_
        first | exact True.intro | ((try dsimp only); first | with_reducible assumption | grind [zu_at, zu_atL, zvn] | ((repeat' apply And.intro) <;> first | with_reducible assumption | ((try clear hback_9); (try clear hj_10); (try clear hj_11); first | lia | grind [zu_at, zu_atL, zvn])))
      refine zw_some ?_
      first | exact True.intro | ((try dsimp only); first | with_reducible assumption | grind [zu_at, zu_atL, zvn] | ((repeat' apply And.intro) <;> first | with_reducible assumption | ((try clear hback_9); (try clear hj_10); (try clear hj_11); first | lia | grind [zu_at, zu_atL, zvn])))
    refine zw_zj (fun _ => True) (fun s_18 Hj_18 => ?_) (fun j_18 hj_18 => ?_)
    · exact hj_11 _ (by first | exact True.intro | ((try dsimp only); first | with_reducible assumption | grind [zu_at, zu_atL, zvn] | ((repeat' apply And.intro) <;> first | with_reducible assumption | ((try clear hback_9); (try clear hj_10); (try clear hj_11); (try clear hj_18); first | lia | grind [zu_at, zu_atL, zvn]))))
    refine zw_if (fun c3 => ?_) (fun c3 => ?_)
    · exact hj_18 _ (by first | exact True.intro | ((try dsimp only); first | with_reducible assumption | grind [zu_at, zu_atL, zvn] | ((repeat' apply And.intro) <;> first | with_reducible assumption | ((try clear hback_9); (try clear hj_10); (try clear hj_11); (try clear hj_18); first | lia | grind [zu_at, zu_atL, zvn]))))
    refine zw_if (fun c4 => ?_) (fun c4 => ?_)
    · exact hj_18 _ (by first | exact True.intro | ((try dsimp only); first | with_reducible assumption | grind [zu_at, zu_atL, zvn] | ((repeat' apply And.intro) <;> first | with_reducible assumption | ((try clear hback_9); (try clear hj_10); (try clear hj_11); (try clear hj_18); first | lia | grind [zu_at, zu_atL, zvn]))))
    exact hj_11 _ (by first | exact True.intro | ((try dsimp only); first | with_reducible assumption | grind [zu_at, zu_atL, zvn] | ((repeat' apply And.intro) <;> first | with_reducible assumption | ((try clear hback_9); (try clear hj_10); (try clear hj_11); (try clear hj_18); first | lia | grind [zu_at, zu_atL, zvn]))))
  refine zw_if (fun c5 => ?_) (fun c5 => ?_)
  · exact hj_10 _ (by first | exact True.intro | ((try dsimp only); first | with_reducible assumption | grind [zu_at, zu_atL, zvn] | ((repeat' apply And.intro) <;> first | with_reducible assumption | ((try clear hback_9); (try clear hj_10); (try clear hj_11); (try clear hj_18); first | lia | grind [zu_at, zu_atL, zvn]))))
  refine zw_if (fun c6 => ?_) (fun c6 => ?_)
  · exact hj_10 _ (by first | exact True.intro | ((try dsimp only); first | with_reducible assumption | grind [zu_at, zu_atL, zvn] | ((repeat' apply And.intro) <;> first | with_reducible assumption | ((try clear hback_9); (try clear hj_10); (try clear hj_11); (try clear hj_18); first | lia | grind [zu_at, zu_atL, zvn]))))
  refine zw_zb0 (sf_X5_readStatement s_9_0 s_9_1 s_9_2 s_9_3 o_5_0 s_9_6 s_9_7 s_9_8 s_9_9 s_9_10 s_9_4 s_9_5 s_9_11 s_9_12 f4 f5 s_9_13 s_9_17 s_9_14 s_9_15 s_9_16 s_9_20 s_9_23 s_9_24 s_9_18 s_9_19 s_9_22 s_9_21 (by first | with_reducible assumption | exact ⟨by with_reducible assumption, by with_reducible assumption⟩ | ((try clear hback_9); (try clear hj_10); (try clear hj_11); (try clear hj_18); first | lia | grind [zu_at, zu_atL, zvn])) (by first | with_reducible assumption | exact ⟨by with_reducible assumption, by with_reducible assumption⟩ | ((try clear hback_9); (try clear hj_10); (try clear hj_11); (try clear hj_18); first | lia | grind [zu_at, zu_atL, zvn])) (by first | with_reducible assumption | exact ⟨by with_reducible assumption, by with_reducible assumption⟩ | ((try clear hback_9); (try clear hj_10); (try clear hj_11); (try clear hj_18); first | lia | grind [zu_at, zu_atL, zvn])) (by first | with_reducible assumption | exact ⟨by with_reducible assumption, by with_reducible assumption⟩ | ((try clear hback_9); (try clear hj_10); (try clear hj_11); (try clear hj_18); first | lia | grind [zu_at, zu_atL, zvn])) (by first | with_reducible assumption | exact ⟨by with_reducible assumption, by with_reducible assumption⟩ | ((try clear hback_9); (try clear hj_10); (try clear hj_11); (try clear hj_18); first | lia | grind [zu_at, zu_atL, zvn])) (by first | with_reducible assumption | exact ⟨by with_reducible assumption, by with_reducible assumption⟩ | ((try clear hback_9); (try clear hj_10); (try clear hj_11); (try clear hj_18); first | lia | grind [zu_at, zu_atL, zvn])) (by first | with_reducible assumption | exact ⟨by with_reducible assumption, by with_reducible assumption⟩ | ((try clear hback_9); (try clear hj_10); (try clear hj_11); (try clear hj_18); first | lia | grind [zu_at, zu_atL, zvn]))) (fun o_23 ho_23 => ?_)
  obtain ⟨o_23_0, o_23_1, o_23_2, o_23_3, o_23_4, o_23_5, o_23_6, o_23_7, o_23_8, o_23_9, o_23_10, o_23_11, o_23_12, o_23_13, o_23_14, o_23_15, o_23_16, o_23_17, o_23_18, o_23_19, o_23_20, o_23_21, o_23_22, o_23_23, o_23_24⟩ := o_23
  try dsimp only at ho_23
  obtain ⟨ho_23_0, ho_23_1, ho_23_2, ho_23_3, ho_23_4, ho_23_5, ho_23_6, ho_23_7, ho_23_8, ho_23_9, ho_23_10, ho_23_11, ho_23_12, ho_23_13⟩ := ho_23
  refine zw_if (fun c7 => ?_) (fun c7 => ?_)
  · refine zw_some ?_
    first | exact True.intro | ((try dsimp only); first | with_reducible assumption | grind [zu_at, zu_atL, zvn] | ((repeat' apply And.intro) <;> first | with_reducible assumption | ((try clear hback_9); (try clear hj_10); (try clear hj_11); (try clear hj_18); first | lia | grind [zu_at, zu_atL, zvn])))
  exact hback_9 _ (by (try dsimp only); first | with_reducible assumption | grind [zu_at, zu_atL, zvn] | ((repeat' apply And.intro) <;> first | with_reducible assumption | ((try clear hback_9); (try clear hj_10); (try clear hj_11); (try clear hj_18); first | lia | grind [zu_at, zu_atL, zvn]))) (by (try dsimp only); ((try clear hback_9); (try clear hj_10); (try clear hj_11); (try clear hj_18); first | lia | grind [zu_at, zu_atL, zvn])) (by (try dsimp only); ((try clear hback_9); (try clear hj_10); (try clear hj_11); (try clear hj_18); first | lia | grind [zu_at, zu_atL, zvn]))
set_option maxHeartbeats 4000000 in
set_option maxRecDepth 100000 in
theorem sf_X6_held (j0 : Int64) : zw (fn_X6_held j0) (fun r => True) := by
  unfold fn_X6_held
  refine zw_zn (fun x_1 ex_1 => ?_)
  refine zw_some ?_
  first | exact True.intro | ((try dsimp only); (repeat' apply And.intro) <;> first | with_reducible assumption | first | lia | grind [zu_at, zu_atL, zvn])
