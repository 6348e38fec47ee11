set_option maxHeartbeats 1000000 in
theorem sf_X10_advance (v0_2 : Int32) (v0_3 : Int32) (v0_4 : Int32) (f1 : Nat → Int32) (f2 : Nat → Int32) (h_v0_2 : 0 ≤ v0_2 ∧ v0_2 ≤ 1200) (h_v0_3 : 0 ≤ v0_3 ∧ v0_3 ≤ 1200) (h_v0_4 : 0 ≤ v0_4 ∧ v0_4 ≤ 5) : zw (fn_X10_advance v0_2 v0_3 v0_4 f1 f2) (fun r => 0 ≤ r.1 ∧ r.1 ≤ 1200 ∧ 0 ≤ r.2.1 ∧ r.2.1 ≤ 5 ∧ 0 ≤ r.2.2.1 ∧ r.2.2.1 ≤ 1200 ∧ (-1) ≤ r.2.2.2.2 ∧ r.2.2.2.2 ≤ 12 ∧ r.2.1 ≤ v0_2 + 4 ∧ r.2.2.1 ≤ r.1 ∧ r.2.2.2.2 ≤ r.2.1 + 11 ∧ v0_3 ≤ r.2.2.1) := by
  unfold fn_X10_advance
  refine zw_zj (fun s_1 => 0 ≤ s_1 ∧ s_1 ≤ 1 ∧ s_1 ≤ v0_4) (fun s_1 Hj_1 => ?_) (fun j_1 hj_1 => ?_)
  · refine zw_zl32 (fun s_2 => s_2 ≤ 1200 ∧ v0_3 ≤ s_2) (fun s_2 => 1200 - s_2) (by (try dsimp only); grind [zu_at, zu_atL]) (by (try dsimp only); grind [zu_at, zu_atL]) (fun s_2 back_2 Hback_2 hback_2 => ?_)
    refine zw_zj (fun _ => True) (fun s_3 Hj_3 => ?_) (fun j_3 hj_3 => ?_)
    · refine zw_zj (fun s_4 => 0 ≤ s_4 ∧ s_4 ≤ 5 ∧ s_4 ≤ v0_2 + 4) (fun s_4 Hj_4 => ?_) (fun j_4 hj_4 => ?_)
      · refine zw_zl32 (fun s_5 => 0 ≤ s_5.1 ∧ s_2 ≤ s_5.2.1 ∧ s_5.1 ≤ s_5.2.1 ∧ s_5.1 ≤ v0_2 ∧ s_5.2.1 ≤ 1200) (fun s_5 => 1200 - s_5.1) (by (try dsimp only); grind [zu_at, zu_atL]) (by (try dsimp only); grind [zu_at, zu_atL]) (fun s_5 back_5 Hback_5 hback_5 => ?_)
        refine zw_zj (fun _ => True) (fun s_6 Hj_6 => ?_) (fun j_6 hj_6 => ?_)
        · refine zw_zj (fun s_7 => 0 ≤ s_7 ∧ s_7 ≤ s_1 ∧ s_7 ≤ s_4) (fun s_7 Hj_7 => ?_) (fun j_7 hj_7 => ?_)
          · refine zw_zj (fun s_8 => s_4 ≤ s_8 + 1 ∧ s_7 ≤ s_8 ∧ s_8 ≤ 5 ∧ s_8 ≤ s_4 + 3 ∧ s_8 ≤ v0_2 + 4) (fun s_8 Hj_8 => ?_) (fun j_8 hj_8 => ?_)
            · refine zw_if (fun c1 => ?_) (fun c1 => ?_)
              · refine zw_zb0 (sf_X10_findOwn s_5.2.2 f2) (fun o_10 ho_10 => ?_)
                refine zw_some ?_
                first | trivial | (try dsimp only); grind [zu_at, zu_atL]
              refine zw_some ?_
              first | trivial | (try dsimp only); grind [zu_at, zu_atL]
            refine zw_zj (fun _ => 1 ≤ s_4 ∧ s_4 ≤ s_7 + 4) (fun s_14 Hj_14 => ?_) (fun j_14 hj_14 => ?_)
            · exact hj_8 _ (by grind [zu_at, zu_atL])
            refine zw_if (fun c2 => ?_) (fun c2 => ?_)
            · refine zw_zj (fun _ => True) (fun s_16 Hj_16 => ?_) (fun j_16 hj_16 => ?_)
              · refine zw_if (fun c3 => ?_) (fun c3 => ?_)
                · refine zw_if (fun c4 => ?_) (fun c4 => ?_)
                  · exact hj_8 _ (by grind [zu_at, zu_atL])
                  exact hj_14 _ (by grind [zu_at, zu_atL])
                exact hj_8 _ (by grind [zu_at, zu_atL])
              refine zw_if (fun c5 => ?_) (fun c5 => ?_)
              · refine zw_if (fun c6 => ?_) (fun c6 => ?_)
                · exact hj_14 _ (by grind [zu_at, zu_atL])
                exact hj_16 _ (by grind [zu_at, zu_atL])
              exact hj_16 _ (by grind [zu_at, zu_atL])
            exact hj_14 _ (by grind [zu_at, zu_atL])
          refine zw_zj (fun _ => True) (fun s_21 Hj_21 => ?_) (fun j_21 hj_21 => ?_)
          · exact hj_7 _ (by grind [zu_at, zu_atL])
          refine zw_if (fun c7 => ?_) (fun c7 => ?_)
          · exact hj_21 _ (by grind [zu_at, zu_atL])
          refine zw_if (fun c8 => ?_) (fun c8 => ?_)
          · refine zw_zj (fun _ => 1 ≤ s_4 ∧ s_1 ≤ s_4 ∧ s_4 ≤ 2 ∧ s_4 ≤ s_1 + 1) (fun s_24 Hj_24 => ?_) (fun j_24 hj_24 => ?_)
            · exact hj_7 _ (by grind [zu_at, zu_atL])
            refine zw_if (fun c9 => ?_) (fun c9 => ?_)
            · exact hj_24 _ (by grind [zu_at, zu_atL])
            refine zw_if (fun c10 => ?_) (fun c10 => ?_)
            · exact hj_24 _ (by grind [zu_at, zu_atL])
            exact hj_21 _ (by grind [zu_at, zu_atL])
          exact hj_21 _ (by grind [zu_at, zu_atL])
        refine zw_if (fun c11 => ?_) (fun c11 => ?_)
        · exact hj_6 _ (by grind [zu_at, zu_atL])
        refine zw_zg32 1200 (by decide) (by grind [zu_at, zu_atL]) ?_
        refine zw_zb0 (sf_X10_kindOf (f1 s_5.2.1.toNatClampNeg)) (fun o_29 ho_29 => ?_)
        refine zw_if (fun c12 => ?_) (fun c12 => ?_)
        · refine zw_zj (fun _ => s_5.1 ≤ 0 ∧ s_5.1 + 3 ≤ o_29 ∧ s_5.1 ≤ s_1 ∧ s_5.1 + 3 ≤ s_4 ∧ s_5.1 ≤ v0_3) (fun s_34 Hj_34 => ?_) (fun j_34 hj_34 => ?_)
          · refine zw_zg32 1200 (by decide) (by grind [zu_at, zu_atL]) ?_
            refine zw_zb0 (sf_X10_addByte (f1 s_5.2.1.toNatClampNeg) (s_5.1 + 1) s_4 s_5.2.2 (by grind [zu_at, zu_atL])) (fun o_36 ho_36 => ?_)
            exact hback_5 _ (by grind [zu_at, zu_atL]) (by grind [zu_at, zu_atL]) (by grind [zu_at, zu_atL])
          refine zw_if (fun c13 => ?_) (fun c13 => ?_)
          · refine zw_if (fun c14 => ?_) (fun c14 => ?_)
            · exact hj_34 _ (by grind [zu_at, zu_atL])
            exact hj_6 _ (by grind [zu_at, zu_atL])
          exact hj_34 _ (by grind [zu_at, zu_atL])
        exact hj_6 _ (by grind [zu_at, zu_atL])
      refine zw_if (fun c15 => ?_) (fun c15 => ?_)
      · exact hj_4 _ (by grind [zu_at, zu_atL])
      refine zw_zg32 1200 (by decide) (by grind [zu_at, zu_atL]) ?_
      refine zw_zb0 (sf_X10_kindOf (f1 s_2.toNatClampNeg)) (fun o_44 ho_44 => ?_)
      exact hj_4 _ (by grind [zu_at, zu_atL])
    refine zw_if (fun c16 => ?_) (fun c16 => ?_)
    · exact hj_3 _ (by grind [zu_at, zu_atL])
    refine zw_zg32 1200 (by decide) (by grind [zu_at, zu_atL]) ?_
    refine zw_zb0 (sf_X10_kindOf (f1 s_2.toNatClampNeg)) (fun o_50 ho_50 => ?_)
    refine zw_if (fun c17 => ?_) (fun c17 => ?_)
    · exact hback_2 _ (by grind [zu_at, zu_atL]) (by grind [zu_at, zu_atL]) (by grind [zu_at, zu_atL])
    exact hj_3 _ (by grind [zu_at, zu_atL])
  refine zw_zj (fun _ => 1 ≤ v0_4 ∧ v0_4 ≤ 2) (fun s_55 Hj_55 => ?_) (fun j_55 hj_55 => ?_)
  · exact hj_1 _ (by grind [zu_at, zu_atL])
  refine zw_if (fun c18 => ?_) (fun c18 => ?_)
  · exact hj_55 _ (by grind [zu_at, zu_atL])
  refine zw_if (fun c19 => ?_) (fun c19 => ?_)
  · exact hj_55 _ (by grind [zu_at, zu_atL])
  exact hj_1 _ (by grind [zu_at, zu_atL])
set_option maxHeartbeats 1000000 in
theorem sf_X10_open (p2 : Int32) (f1 : Nat → Int32) (f2 : Nat → Int32) : zw (fn_X10_open p2 f1 f2) (fun r => 0 ≤ r.1 ∧ r.1 ≤ 1200 ∧ 0 ≤ r.2.1 ∧ r.2.1 ≤ 1200 ∧ 0 ≤ r.2.2.1 ∧ r.2.2.1 ≤ 5 ∧ 0 ≤ r.2.2.2.1 ∧ r.2.2.2.1 ≤ 1200 ∧ (-1) ≤ r.2.2.2.2.2 ∧ r.2.2.2.2.2 ≤ 12 ∧ r.2.2.1 ≤ r.1 + 4 ∧ r.2.2.2.1 ≤ r.2.1 ∧ r.2.2.2.2.2 ≤ r.2.2.1 + 11) := by
  unfold fn_X10_open
  refine zw_zn (fun x_1 ex_1 => ?_)
  refine zw_zb0 (sf_X10_advance x_1 0 0 f1 f2 (by grind [zu_at, zu_atL]) (by grind [zu_at, zu_atL]) (by grind [zu_at, zu_atL])) (fun o_2 ho_2 => ?_)
  refine zw_some ?_
  first | trivial | (try dsimp only); grind [zu_at, zu_atL]
set_option maxHeartbeats 1000000 in
theorem sf_X5_startsStatement (p0 : Int32) : zw (fn_X5_startsStatement p0) (fun r => 0 ≤ r ∧ r ≤ 1 ∧ (r = 1 → 0 ≤ p0 ∧ p0 ≤ 11 ∧ p0 ≤ r + 10 ∧ r ≤ p0 + 1) ∧ (¬ r = 1 → r ≤ 0) ∧ (¬ r = 0 → 0 ≤ p0 ∧ 1 ≤ r ∧ p0 ≤ 11 ∧ p0 ≤ r + 10 ∧ r ≤ p0 + 1)) := by
  unfold fn_X5_startsStatement
  refine zw_if (fun c1 => ?_) (fun c1 => ?_)
  · refine zw_some ?_
    first | trivial | (try dsimp only); grind [zu_at, zu_atL]
  refine zw_if (fun c2 => ?_) (fun c2 => ?_)
  · refine zw_some ?_
    first | trivial | (try dsimp only); grind [zu_at, zu_atL]
  refine zw_if (fun c3 => ?_) (fun c3 => ?_)
  · refine zw_some ?_
    first | trivial | (try dsimp only); grind [zu_at, zu_atL]
  refine zw_if (fun c4 => ?_) (fun c4 => ?_)
  · refine zw_some ?_
    first | trivial | (try dsimp only); grind [zu_at, zu_atL]
  refine zw_if (fun c5 => ?_) (fun c5 => ?_)
  · refine zw_some ?_
    first | trivial | (try dsimp only); grind [zu_at, zu_atL]
  refine zw_if (fun c6 => ?_) (fun c6 => ?_)
  · refine zw_some ?_
    first | trivial | (try dsimp only); grind [zu_at, zu_atL]
  refine zw_if (fun c7 => ?_) (fun c7 => ?_)
  · refine zw_some ?_
    first | trivial | (try dsimp only); grind [zu_at, zu_atL]
  refine zw_if (fun c8 => ?_) (fun c8 => ?_)
  · refine zw_some ?_
    first | trivial | (try dsimp only); grind [zu_at, zu_atL]
  refine zw_if (fun c9 => ?_) (fun c9 => ?_)
  · refine zw_some ?_
    first | trivial | (try dsimp only); grind [zu_at, zu_atL]
  refine zw_if (fun c10 => ?_) (fun c10 => ?_)
  · refine zw_some ?_
    first | trivial | (try dsimp only); grind [zu_at, zu_atL]
  refine zw_if (fun c11 => ?_) (fun c11 => ?_)
  · refine zw_some ?_
    first | trivial | (try dsimp only); grind [zu_at, zu_atL]
  refine zw_if (fun c12 => ?_) (fun c12 => ?_)
  · refine zw_some ?_
    first | trivial | (try dsimp only); grind [zu_at, zu_atL]
  refine zw_some ?_
  first | trivial | (try dsimp only); grind [zu_at, zu_atL]
set_option maxHeartbeats 1000000 in
theorem sf_X5_stopAt (p1 : Int32) (p2 : Int32) : zw (fn_X5_stopAt p1 p2) (fun r => 0 ≤ r.1 ∧ r.1 ≤ 1 ∧ p1 ≤ r.2.1 ∧ p2 ≤ r.2.2 ∧ r.1 ≤ 0 ∧ r.2.1 ≤ p1 ∧ r.2.2 ≤ p2) := by
  unfold fn_X5_stopAt
  refine zw_some ?_
  first | trivial | (try dsimp only); grind [zu_at, zu_atL]
set_option maxHeartbeats 1000000 in
theorem sf_X5_isFull (p1 : Int32) (v0_0 : Int32) (v1_0 : Int32) (h_v0_0 : 0 ≤ v0_0 ∧ v0_0 ≤ 4) (h_v1_0 : 0 ≤ v1_0 ∧ v1_0 ≤ 14) : zw (fn_X5_isFull p1 v0_0 v1_0) (fun r => 0 ≤ r ∧ r ≤ 1 ∧ (r = 0 → r ≤ v0_0 ∧ r ≤ v1_0) ∧ (¬ r = 0 → 1 ≤ r ∧ v0_0 ≤ r + 3 ∧ v1_0 ≤ r + 13) ∧ (r = 1 → v0_0 ≤ r + 3 ∧ v1_0 ≤ r + 13) ∧ (¬ r = 1 → r ≤ 0 ∧ r ≤ v0_0 ∧ r ≤ v1_0)) := by
  unfold fn_X5_isFull
  refine zw_if (fun c1 => ?_) (fun c1 => ?_)
  · refine zw_if (fun c2 => ?_) (fun c2 => ?_)
    · refine zw_some ?_
      first | trivial | (try dsimp only); grind [zu_at, zu_atL]
    refine zw_some ?_
    first | trivial | (try dsimp only); grind [zu_at, zu_atL]
  refine zw_zj (fun s_2 => 0 ≤ s_2 ∧ s_2 ≤ 1) (fun s_2 Hj_2 => ?_) (fun j_2 hj_2 => ?_)
  · refine zw_if (fun c3 => ?_) (fun c3 => ?_)
    · refine zw_some ?_
      first | trivial | (try dsimp only); grind [zu_at, zu_atL]
    refine zw_if (fun c4 => ?_) (fun c4 => ?_)
    · refine zw_some ?_
      first | trivial | (try dsimp only); grind [zu_at, zu_atL]
    refine zw_some ?_
    first | trivial | (try dsimp only); grind [zu_at, zu_atL]
  refine zw_zj (fun _ => 5 ≤ p1 ∧ p1 ≤ 6) (fun s_5 Hj_5 => ?_) (fun j_5 hj_5 => ?_)
  · exact hj_2 _ (by grind [zu_at, zu_atL])
  refine zw_if (fun c5 => ?_) (fun c5 => ?_)
  · exact hj_5 _ (by grind [zu_at, zu_atL])
  refine zw_if (fun c6 => ?_) (fun c6 => ?_)
  · exact hj_5 _ (by grind [zu_at, zu_atL])
  exact hj_2 _ (by grind [zu_at, zu_atL])
set_option maxHeartbeats 1000000 in
theorem sf_X10_isName (v0_4 : Int32) (v0_7 : Int32) (h_v0_4 : 0 ≤ v0_4 ∧ v0_4 ≤ 5) (h_v0_7 : (-1) ≤ v0_7 ∧ v0_7 ≤ 12) : zw (fn_X10_isName v0_4 v0_7) (fun r => 0 ≤ r ∧ r ≤ 1 ∧ r ≤ v0_4 ∧ (r = 1 → 1 ≤ v0_4 ∧ v0_4 ≤ 1 ∧ v0_4 ≤ r ∧ v0_4 ≤ v0_7 + 2 ∧ v0_7 ≤ (-1) ∧ v0_7 + 2 ≤ r ∧ v0_7 + 2 ≤ v0_4) ∧ (¬ r = 1 → r ≤ 0 ∧ r ≤ v0_7 + 1) ∧ (r = 0 → r ≤ v0_7 + 1) ∧ (¬ r = 0 → 1 ≤ r ∧ 1 ≤ v0_4 ∧ v0_4 ≤ 1 ∧ v0_4 ≤ r ∧ v0_4 ≤ v0_7 + 2 ∧ v0_7 ≤ (-1) ∧ v0_7 + 2 ≤ r ∧ v0_7 + 2 ≤ v0_4)) := by
  unfold fn_X10_isName
  refine zw_if (fun c1 => ?_) (fun c1 => ?_)
  · refine zw_if (fun c2 => ?_) (fun c2 => ?_)
    · refine zw_some ?_
      first | trivial | (try dsimp only); grind [zu_at, zu_atL]
    refine zw_some ?_
    first | trivial | (try dsimp only); grind [zu_at, zu_atL]
  refine zw_some ?_
  first | trivial | (try dsimp only); grind [zu_at, zu_atL]
set_option maxHeartbeats 1000000 in
theorem sf_X9_findFormat (p1 : Int32) (v0_0 : Int32) (f1 : Nat → Int32) (h_v0_0 : 0 ≤ v0_0 ∧ v0_0 ≤ 4) : zw (fn_X9_findFormat p1 v0_0 f1) (fun r => (-1) ≤ r ∧ r < v0_0 ∧ (¬ r = (-1) → 0 ≤ r)) := by
  unfold fn_X9_findFormat
  refine zw_zl32 (fun s_1 => 0 ≤ s_1 ∧ s_1 ≤ v0_0) (fun s_1 => 4 - s_1) (by (try dsimp only); grind [zu_at, zu_atL]) (by (try dsimp only); grind [zu_at, zu_atL]) (fun s_1 back_1 Hback_1 hback_1 => ?_)
  refine zw_if (fun c1 => ?_) (fun c1 => ?_)
  · refine zw_some ?_
    first | trivial | (try dsimp only); grind [zu_at, zu_atL]
  refine zw_zg32 4 (by decide) (by grind [zu_at, zu_atL]) ?_
  refine zw_if (fun c2 => ?_) (fun c2 => ?_)
  · refine zw_some ?_
    first | trivial | (try dsimp only); grind [zu_at, zu_atL]
  exact hback_1 _ (by grind [zu_at, zu_atL]) (by grind [zu_at, zu_atL]) (by grind [zu_at, zu_atL])
set_option maxHeartbeats 1000000 in
theorem sf_X5_readNewName (v0_1 : Int32) (v0_2 : Int32) (v0_3 : Int32) (v1_2 : Int32) (v1_3 : Int32) (v1_4 : Int32) (v1_5 : Int32) (v1_6 : Int32) (v1_7 : Int32) (v2_0 : Int32) (f3 : Nat → Int32) (v4_0 : Int32) (f5 : Nat → Int32) (f6 : Nat → Int32) (f7 : Nat → Int32) (h_v1_2 : 0 ≤ v1_2 ∧ v1_2 ≤ 1200) (h_v1_3 : 0 ≤ v1_3 ∧ v1_3 ≤ 1200) (h_v1_4 : 0 ≤ v1_4 ∧ v1_4 ≤ 5) (h_v1_5 : 0 ≤ v1_5 ∧ v1_5 ≤ 1200) (h_v1_7 : (-1) ≤ v1_7 ∧ v1_7 ≤ 12) (h_v2_0 : 0 ≤ v2_0 ∧ v2_0 ≤ 4) (h_v4_0 : 0 ≤ v4_0 ∧ v4_0 ≤ 14) : zw (fn_X5_readNewName v0_1 v0_2 v0_3 v1_2 v1_3 v1_4 v1_5 v1_6 v1_7 v2_0 f3 v4_0 f5 f6 f7) (fun r => 0 ≤ r.1 ∧ r.1 ≤ 1 ∧ 0 ≤ r.2.2.2.2.1 ∧ r.2.2.2.2.1 ≤ 1200 ∧ 0 ≤ r.2.2.2.2.2.1 ∧ r.2.2.2.2.2.1 ≤ 5 ∧ 0 ≤ r.2.2.2.2.2.2.1 ∧ r.2.2.2.2.2.2.1 ≤ 1200 ∧ (-1) ≤ r.2.2.2.2.2.2.2.2 ∧ r.2.2.2.2.2.2.2.2 ≤ 12 ∧ r.1 ≤ v1_4 ∧ r.2.2.2.2.2.1 ≤ v1_4 + 4 ∧ v1_3 ≤ r.2.2.2.2.1 ∧ v1_4 ≤ r.2.2.2.2.2.1 + 1 ∧ v1_7 ≤ r.2.2.2.2.2.2.2.2 ∧ (r.1 = 1 → 1 ≤ v1_4 ∧ r.2.1 ≤ v1_6 ∧ r.2.2.1 ≤ v0_2 ∧ r.2.2.2.1 ≤ v0_3 ∧ r.2.2.2.2.2.1 ≤ r.1 + 4 ∧ r.2.2.2.2.2.1 ≤ v1_2 + 4 ∧ r.2.2.2.2.2.2.1 ≤ r.2.2.2.2.1 ∧ r.2.2.2.2.2.2.2.2 ≤ r.1 + 11 ∧ r.2.2.2.2.2.2.2.2 ≤ r.2.2.2.2.2.1 + 11 ∧ r.2.2.2.2.2.2.2.2 ≤ v1_4 + 11 ∧ v0_2 ≤ r.2.2.1 ∧ v0_3 ≤ r.2.2.2.1 ∧ v1_3 ≤ r.2.2.2.2.2.2.1 ∧ v1_4 ≤ 1 ∧ v1_4 ≤ r.1 ∧ v1_4 ≤ r.2.2.2.2.2.2.2.2 + 2 ∧ v1_4 ≤ v1_2 + 1 ∧ v1_4 ≤ v1_3 + 1 ∧ v1_4 ≤ v1_5 + 1 ∧ v1_4 ≤ v1_7 + 2 ∧ v1_4 ≤ v2_0 + 1 ∧ v1_4 ≤ v4_0 + 1 ∧ v1_6 ≤ r.2.1 ∧ v1_7 ≤ (-1) ∧ v1_7 + 2 ≤ r.1 ∧ v1_7 < r.2.2.2.2.2.1 ∧ v1_7 < v1_2 ∧ v1_7 < v1_3 ∧ v1_7 + 2 ≤ v1_4 ∧ v1_7 < v1_5 ∧ v1_7 < v2_0 ∧ v1_7 < v4_0 ∧ v2_0 ≤ r.1 + 3 ∧ v2_0 ≤ v1_4 + 3 ∧ v4_0 ≤ r.1 + 13 ∧ v4_0 ≤ v1_4 + 13) ∧ (¬ r.1 = 1 → 1 ≤ r.2.2.1 ∧ 0 ≤ r.2.2.2.1 ∧ r.1 ≤ 0 ∧ r.1 < r.2.2.1 ∧ r.1 ≤ r.2.2.2.1 ∧ r.1 ≤ r.2.2.2.2.1 ∧ r.1 ≤ r.2.2.2.2.2.1 ∧ r.1 ≤ r.2.2.2.2.2.2.1 ∧ r.1 ≤ r.2.2.2.2.2.2.2.2 + 1 ∧ r.1 ≤ v1_2 ∧ r.1 ≤ v1_3 ∧ r.1 ≤ v1_5 ∧ r.1 ≤ v1_7 + 1 ∧ r.1 ≤ v2_0 ∧ r.1 ≤ v4_0 ∧ r.2.1 ≤ v0_1 ∧ r.2.2.1 ≤ 3 ∧ r.2.2.1 ≤ r.1 + 3 ∧ r.2.2.1 ≤ r.2.2.2.2.2.1 + 2 ∧ r.2.2.1 ≤ v1_4 + 2 ∧ r.2.2.2.1 ≤ 1200 ∧ r.2.2.2.1 ≤ r.2.2.2.2.2.2.1 ∧ r.2.2.2.1 ≤ v1_5 ∧ r.2.2.2.2.1 ≤ v1_3 ∧ r.2.2.2.2.2.1 ≤ v1_4 ∧ r.2.2.2.2.2.2.1 ≤ r.2.2.2.1 ∧ r.2.2.2.2.2.2.1 ≤ v1_5 ∧ r.2.2.2.2.2.2.2.1 ≤ v1_6 ∧ r.2.2.2.2.2.2.2.2 ≤ v1_7 ∧ v0_1 ≤ r.2.1 ∧ v1_4 ≤ r.2.2.2.2.2.1 ∧ v1_5 ≤ r.2.2.2.1 ∧ v1_5 ≤ r.2.2.2.2.2.2.1 ∧ v1_6 ≤ r.2.2.2.2.2.2.2.1) ∧ (r.1 = 0 → 1 ≤ r.2.2.1 ∧ 0 ≤ r.2.2.2.1 ∧ r.1 < r.2.2.1 ∧ r.1 ≤ r.2.2.2.1 ∧ r.1 ≤ r.2.2.2.2.1 ∧ r.1 ≤ r.2.2.2.2.2.1 ∧ r.1 ≤ r.2.2.2.2.2.2.1 ∧ r.1 ≤ r.2.2.2.2.2.2.2.2 + 1 ∧ r.1 ≤ v1_2 ∧ r.1 ≤ v1_3 ∧ r.1 ≤ v1_5 ∧ r.1 ≤ v1_7 + 1 ∧ r.1 ≤ v2_0 ∧ r.1 ≤ v4_0 ∧ r.2.1 ≤ v0_1 ∧ r.2.2.1 ≤ 3 ∧ r.2.2.1 ≤ r.1 + 3 ∧ r.2.2.1 ≤ r.2.2.2.2.2.1 + 2 ∧ r.2.2.1 ≤ v1_4 + 2 ∧ r.2.2.2.1 ≤ 1200 ∧ r.2.2.2.1 ≤ r.2.2.2.2.2.2.1 ∧ r.2.2.2.1 ≤ v1_5 ∧ r.2.2.2.2.1 ≤ v1_3 ∧ r.2.2.2.2.2.1 ≤ v1_4 ∧ r.2.2.2.2.2.2.1 ≤ r.2.2.2.1 ∧ r.2.2.2.2.2.2.1 ≤ v1_5 ∧ r.2.2.2.2.2.2.2.1 ≤ v1_6 ∧ r.2.2.2.2.2.2.2.2 ≤ v1_7 ∧ v0_1 ≤ r.2.1 ∧ v1_4 ≤ r.2.2.2.2.2.1 ∧ v1_5 ≤ r.2.2.2.1 ∧ v1_5 ≤ r.2.2.2.2.2.2.1 ∧ v1_6 ≤ r.2.2.2.2.2.2.2.1) ∧ (¬ r.1 = 0 → 1 ≤ r.1 ∧ 1 ≤ v1_4 ∧ r.2.1 ≤ v1_6 ∧ r.2.2.1 ≤ v0_2 ∧ r.2.2.2.1 ≤ v0_3 ∧ r.2.2.2.2.2.1 ≤ r.1 + 4 ∧ r.2.2.2.2.2.1 ≤ v1_2 + 4 ∧ r.2.2.2.2.2.2.1 ≤ r.2.2.2.2.1 ∧ r.2.2.2.2.2.2.2.2 ≤ r.1 + 11 ∧ r.2.2.2.2.2.2.2.2 ≤ r.2.2.2.2.2.1 + 11 ∧ r.2.2.2.2.2.2.2.2 ≤ v1_4 + 11 ∧ v0_2 ≤ r.2.2.1 ∧ v0_3 ≤ r.2.2.2.1 ∧ v1_3 ≤ r.2.2.2.2.2.2.1 ∧ v1_4 ≤ 1 ∧ v1_4 ≤ r.1 ∧ v1_4 ≤ r.2.2.2.2.2.2.2.2 + 2 ∧ v1_4 ≤ v1_2 + 1 ∧ v1_4 ≤ v1_3 + 1 ∧ v1_4 ≤ v1_5 + 1 ∧ v1_4 ≤ v1_7 + 2 ∧ v1_4 ≤ v2_0 + 1 ∧ v1_4 ≤ v4_0 + 1 ∧ v1_6 ≤ r.2.1 ∧ v1_7 ≤ (-1) ∧ v1_7 + 2 ≤ r.1 ∧ v1_7 < r.2.2.2.2.2.1 ∧ v1_7 < v1_2 ∧ v1_7 < v1_3 ∧ v1_7 + 2 ≤ v1_4 ∧ v1_7 < v1_5 ∧ v1_7 < v2_0 ∧ v1_7 < v4_0 ∧ v2_0 ≤ r.1 + 3 ∧ v2_0 ≤ v1_4 + 3 ∧ v4_0 ≤ r.1 + 13 ∧ v4_0 ≤ v1_4 + 13)) := by
  unfold fn_X5_readNewName
  refine zw_zb0 (sf_X10_isName v1_4 v1_7 (by grind [zu_at, zu_atL]) (by grind [zu_at, zu_atL])) (fun o_1 ho_1 => ?_)
  refine zw_if (fun c1 => ?_) (fun c1 => ?_)
  · refine zw_zb0 (sf_X5_stopAt 1 v1_5) (fun o_28 ho_28 => ?_)
    refine zw_some ?_
    first | trivial | (try dsimp only); grind [zu_at, zu_atL]
  refine zw_zb0 (sf_X9_findFormat v1_6 v2_0 f3 (by grind [zu_at, zu_atL])) (fun o_6 ho_6 => ?_)
  refine zw_if (fun c2 => ?_) (fun c2 => ?_)
  · refine zw_zb0 (sf_X4_find v1_6 v4_0 f5 (by grind [zu_at, zu_atL])) (fun o_15 ho_15 => ?_)
    refine zw_if (fun c3 => ?_) (fun c3 => ?_)
    · refine zw_zb0 (sf_X10_advance v1_2 v1_3 v1_4 f6 f7 (by grind [zu_at, zu_atL]) (by grind [zu_at, zu_atL]) (by grind [zu_at, zu_atL])) (fun o_20 ho_20 => ?_)
      refine zw_some ?_
      first | trivial | (try dsimp only); grind [zu_at, zu_atL]
    refine zw_zb0 (sf_X5_stopAt 3 v1_5) (fun o_24 ho_24 => ?_)
    refine zw_some ?_
    first | trivial | (try dsimp only); grind [zu_at, zu_atL]
  refine zw_zb0 (sf_X5_stopAt 3 v1_5) (fun o_11 ho_11 => ?_)
  refine zw_some ?_
  first | trivial | (try dsimp only); grind [zu_at, zu_atL]
set_option maxHeartbeats 1000000 in
theorem sf_X10_isOwn (p1 : Int32) (v0_4 : Int32) (v0_7 : Int32) (h_v0_4 : 0 ≤ v0_4 ∧ v0_4 ≤ 5) (h_v0_7 : (-1) ≤ v0_7 ∧ v0_7 ≤ 12) : zw (fn_X10_isOwn p1 v0_4 v0_7) (fun r => 0 ≤ r ∧ r ≤ 1 ∧ r ≤ v0_4 ∧ (r = 1 → (-1) ≤ p1 ∧ 1 ≤ v0_4 ∧ p1 ≤ 12 ∧ p1 ≤ r + 11 ∧ p1 ≤ v0_4 + 11 ∧ p1 ≤ v0_7 ∧ r ≤ p1 + 2 ∧ v0_4 ≤ 1 ∧ v0_4 ≤ p1 + 2 ∧ v0_4 ≤ r ∧ v0_4 ≤ v0_7 + 2 ∧ v0_7 ≤ p1 ∧ v0_7 ≤ r + 11 ∧ v0_7 ≤ v0_4 + 11) ∧ (¬ r = 1 → r ≤ 0 ∧ r ≤ v0_7 + 1) ∧ (r = 0 → r ≤ v0_7 + 1) ∧ (¬ r = 0 → (-1) ≤ p1 ∧ 1 ≤ r ∧ 1 ≤ v0_4 ∧ p1 ≤ 12 ∧ p1 ≤ r + 11 ∧ p1 ≤ v0_4 + 11 ∧ p1 ≤ v0_7 ∧ r ≤ p1 + 2 ∧ v0_4 ≤ 1 ∧ v0_4 ≤ p1 + 2 ∧ v0_4 ≤ r ∧ v0_4 ≤ v0_7 + 2 ∧ v0_7 ≤ p1 ∧ v0_7 ≤ r + 11 ∧ v0_7 ≤ v0_4 + 11)) := by
  unfold fn_X10_isOwn
  refine zw_if (fun c1 => ?_) (fun c1 => ?_)
  · refine zw_if (fun c2 => ?_) (fun c2 => ?_)
    · refine zw_some ?_
      first | trivial | (try dsimp only); grind [zu_at, zu_atL]
    refine zw_some ?_
    first | trivial | (try dsimp only); grind [zu_at, zu_atL]
  refine zw_some ?_
  first | trivial | (try dsimp only); grind [zu_at, zu_atL]
set_option maxHeartbeats 1000000 in
theorem sf_X5_readOwn (p1 : Int32) (v0_2 : Int32) (v0_3 : Int32) (v1_2 : Int32) (v1_3 : Int32) (v1_4 : Int32) (v1_5 : Int32) (v1_6 : Int32) (v1_7 : Int32) (f2 : Nat → Int32) (f3 : Nat → Int32) (h_v1_2 : 0 ≤ v1_2 ∧ v1_2 ≤ 1200) (h_v1_3 : 0 ≤ v1_3 ∧ v1_3 ≤ 1200) (h_v1_4 : 0 ≤ v1_4 ∧ v1_4 ≤ 5) (h_v1_5 : 0 ≤ v1_5 ∧ v1_5 ≤ 1200) (h_v1_7 : (-1) ≤ v1_7 ∧ v1_7 ≤ 12) : zw (fn_X5_readOwn p1 v0_2 v0_3 v1_2 v1_3 v1_4 v1_5 v1_6 v1_7 f2 f3) (fun r => 0 ≤ r.1 ∧ r.1 ≤ 1 ∧ 0 ≤ r.2.2.2.1 ∧ r.2.2.2.1 ≤ 1200 ∧ 0 ≤ r.2.2.2.2.1 ∧ r.2.2.2.2.1 ≤ 5 ∧ 0 ≤ r.2.2.2.2.2.1 ∧ r.2.2.2.2.2.1 ≤ 1200 ∧ (-1) ≤ r.2.2.2.2.2.2.2 ∧ r.2.2.2.2.2.2.2 ≤ 12 ∧ r.1 ≤ v1_4 ∧ r.2.2.2.2.1 ≤ v1_4 + 4 ∧ v1_3 ≤ r.2.2.2.1 ∧ v1_4 ≤ r.2.2.2.2.1 + 1 ∧ (r.1 = 1 → (-1) ≤ p1 ∧ 1 ≤ v1_4 ∧ p1 ≤ 12 ∧ p1 ≤ r.1 + 11 ∧ p1 ≤ v1_4 + 11 ∧ p1 ≤ v1_7 ∧ r.1 ≤ p1 + 2 ∧ r.2.1 ≤ v0_2 ∧ r.2.2.1 ≤ v0_3 ∧ r.2.2.2.2.1 ≤ r.1 + 4 ∧ r.2.2.2.2.1 ≤ v1_2 + 4 ∧ r.2.2.2.2.2.1 ≤ r.2.2.2.1 ∧ r.2.2.2.2.2.2.2 ≤ r.1 + 11 ∧ r.2.2.2.2.2.2.2 ≤ r.2.2.2.2.1 + 11 ∧ r.2.2.2.2.2.2.2 ≤ v1_4 + 11 ∧ v0_2 ≤ r.2.1 ∧ v0_3 ≤ r.2.2.1 ∧ v1_3 ≤ r.2.2.2.2.2.1 ∧ v1_4 ≤ 1 ∧ v1_4 ≤ p1 + 2 ∧ v1_4 ≤ r.1 ∧ v1_4 ≤ r.2.2.2.2.2.2.2 + 2 ∧ v1_4 ≤ v1_2 + 1 ∧ v1_4 ≤ v1_3 + 1 ∧ v1_4 ≤ v1_5 + 1 ∧ v1_4 ≤ v1_7 + 2 ∧ v1_7 ≤ p1 ∧ v1_7 ≤ r.1 + 11 ∧ v1_7 ≤ v1_4 + 11) ∧ (¬ r.1 = 1 → 1 ≤ r.2.1 ∧ 0 ≤ r.2.2.1 ∧ r.1 ≤ 0 ∧ r.1 < r.2.1 ∧ r.1 ≤ r.2.2.1 ∧ r.1 ≤ r.2.2.2.1 ∧ r.1 ≤ r.2.2.2.2.1 ∧ r.1 ≤ r.2.2.2.2.2.1 ∧ r.1 ≤ r.2.2.2.2.2.2.2 + 1 ∧ r.1 ≤ v1_2 ∧ r.1 ≤ v1_3 ∧ r.1 ≤ v1_5 ∧ r.1 ≤ v1_7 + 1 ∧ r.2.1 ≤ 1 ∧ r.2.1 ≤ r.1 + 1 ∧ r.2.1 ≤ r.2.2.1 + 1 ∧ r.2.1 ≤ r.2.2.2.1 + 1 ∧ r.2.1 ≤ r.2.2.2.2.1 + 1 ∧ r.2.1 ≤ r.2.2.2.2.2.1 + 1 ∧ r.2.1 ≤ r.2.2.2.2.2.2.2 + 2 ∧ r.2.1 ≤ v1_2 + 1 ∧ r.2.1 ≤ v1_3 + 1 ∧ r.2.1 ≤ v1_4 + 1 ∧ r.2.1 ≤ v1_5 + 1 ∧ r.2.1 ≤ v1_7 + 2 ∧ r.2.2.1 ≤ 1200 ∧ r.2.2.1 ≤ r.2.2.2.2.2.1 ∧ r.2.2.1 ≤ v1_5 ∧ r.2.2.2.1 ≤ v1_3 ∧ r.2.2.2.2.1 ≤ r.2.1 + 4 ∧ r.2.2.2.2.1 ≤ v1_4 ∧ r.2.2.2.2.2.1 ≤ r.2.2.1 ∧ r.2.2.2.2.2.1 ≤ v1_5 ∧ r.2.2.2.2.2.2.1 ≤ v1_6 ∧ r.2.2.2.2.2.2.2 ≤ r.2.1 + 11 ∧ r.2.2.2.2.2.2.2 ≤ v1_7 ∧ v1_4 ≤ r.2.1 + 4 ∧ v1_4 ≤ r.2.2.2.2.1 ∧ v1_5 ≤ r.2.2.1 ∧ v1_5 ≤ r.2.2.2.2.2.1 ∧ v1_6 ≤ r.2.2.2.2.2.2.1 ∧ v1_7 ≤ r.2.1 + 11 ∧ v1_7 ≤ r.2.2.2.2.2.2.2) ∧ (r.1 = 0 → 1 ≤ r.2.1 ∧ 0 ≤ r.2.2.1 ∧ r.1 < r.2.1 ∧ r.1 ≤ r.2.2.1 ∧ r.1 ≤ r.2.2.2.1 ∧ r.1 ≤ r.2.2.2.2.1 ∧ r.1 ≤ r.2.2.2.2.2.1 ∧ r.1 ≤ r.2.2.2.2.2.2.2 + 1 ∧ r.1 ≤ v1_2 ∧ r.1 ≤ v1_3 ∧ r.1 ≤ v1_5 ∧ r.1 ≤ v1_7 + 1 ∧ r.2.1 ≤ 1 ∧ r.2.1 ≤ r.1 + 1 ∧ r.2.1 ≤ r.2.2.1 + 1 ∧ r.2.1 ≤ r.2.2.2.1 + 1 ∧ r.2.1 ≤ r.2.2.2.2.1 + 1 ∧ r.2.1 ≤ r.2.2.2.2.2.1 + 1 ∧ r.2.1 ≤ r.2.2.2.2.2.2.2 + 2 ∧ r.2.1 ≤ v1_2 + 1 ∧ r.2.1 ≤ v1_3 + 1 ∧ r.2.1 ≤ v1_4 + 1 ∧ r.2.1 ≤ v1_5 + 1 ∧ r.2.1 ≤ v1_7 + 2 ∧ r.2.2.1 ≤ 1200 ∧ r.2.2.1 ≤ r.2.2.2.2.2.1 ∧ r.2.2.1 ≤ v1_5 ∧ r.2.2.2.1 ≤ v1_3 ∧ r.2.2.2.2.1 ≤ r.2.1 + 4 ∧ r.2.2.2.2.1 ≤ v1_4 ∧ r.2.2.2.2.2.1 ≤ r.2.2.1 ∧ r.2.2.2.2.2.1 ≤ v1_5 ∧ r.2.2.2.2.2.2.1 ≤ v1_6 ∧ r.2.2.2.2.2.2.2 ≤ r.2.1 + 11 ∧ r.2.2.2.2.2.2.2 ≤ v1_7 ∧ v1_4 ≤ r.2.1 + 4 ∧ v1_4 ≤ r.2.2.2.2.1 ∧ v1_5 ≤ r.2.2.1 ∧ v1_5 ≤ r.2.2.2.2.2.1 ∧ v1_6 ≤ r.2.2.2.2.2.2.1 ∧ v1_7 ≤ r.2.1 + 11 ∧ v1_7 ≤ r.2.2.2.2.2.2.2) ∧ (¬ r.1 = 0 → (-1) ≤ p1 ∧ 1 ≤ r.1 ∧ 1 ≤ v1_4 ∧ p1 ≤ 12 ∧ p1 ≤ r.1 + 11 ∧ p1 ≤ v1_4 + 11 ∧ p1 ≤ v1_7 ∧ r.1 ≤ p1 + 2 ∧ r.2.1 ≤ v0_2 ∧ r.2.2.1 ≤ v0_3 ∧ r.2.2.2.2.1 ≤ r.1 + 4 ∧ r.2.2.2.2.1 ≤ v1_2 + 4 ∧ r.2.2.2.2.2.1 ≤ r.2.2.2.1 ∧ r.2.2.2.2.2.2.2 ≤ r.1 + 11 ∧ r.2.2.2.2.2.2.2 ≤ r.2.2.2.2.1 + 11 ∧ r.2.2.2.2.2.2.2 ≤ v1_4 + 11 ∧ v0_2 ≤ r.2.1 ∧ v0_3 ≤ r.2.2.1 ∧ v1_3 ≤ r.2.2.2.2.2.1 ∧ v1_4 ≤ 1 ∧ v1_4 ≤ p1 + 2 ∧ v1_4 ≤ r.1 ∧ v1_4 ≤ r.2.2.2.2.2.2.2 + 2 ∧ v1_4 ≤ v1_2 + 1 ∧ v1_4 ≤ v1_3 + 1 ∧ v1_4 ≤ v1_5 + 1 ∧ v1_4 ≤ v1_7 + 2 ∧ v1_7 ≤ p1 ∧ v1_7 ≤ r.1 + 11 ∧ v1_7 ≤ v1_4 + 11)) := by
  unfold fn_X5_readOwn
  refine zw_zb0 (sf_X10_isOwn p1 v1_4 v1_7 (by grind [zu_at, zu_atL]) (by grind [zu_at, zu_atL])) (fun o_1 ho_1 => ?_)
  refine zw_if (fun c1 => ?_) (fun c1 => ?_)
  · refine zw_zb0 (sf_X5_stopAt 1 v1_5) (fun o_10 ho_10 => ?_)
    refine zw_some ?_
    first | trivial | (try dsimp only); grind [zu_at, zu_atL]
  refine zw_zb0 (sf_X10_advance v1_2 v1_3 v1_4 f2 f3 (by grind [zu_at, zu_atL]) (by grind [zu_at, zu_atL]) (by grind [zu_at, zu_atL])) (fun o_6 ho_6 => ?_)
  refine zw_some ?_
  first | trivial | (try dsimp only); grind [zu_at, zu_atL]
set_option maxHeartbeats 1000000 in
theorem sf_X10_isSign (p1 : Int32) (v0_4 : Int32) (v0_6 : Int32) (h_v0_4 : 0 ≤ v0_4 ∧ v0_4 ≤ 5) : zw (fn_X10_isSign p1 v0_4 v0_6) (fun r => 0 ≤ r ∧ r ≤ 1 ∧ r ≤ v0_4 ∧ (r = 1 → 3 ≤ v0_4 ∧ p1 ≤ v0_6 ∧ r + 2 ≤ v0_4 ∧ v0_4 ≤ 3 ∧ v0_4 ≤ r + 2 ∧ v0_6 ≤ p1) ∧ (¬ r = 1 → r ≤ 0) ∧ (¬ r = 0 → 1 ≤ r ∧ 3 ≤ v0_4 ∧ p1 ≤ v0_6 ∧ r + 2 ≤ v0_4 ∧ v0_4 ≤ 3 ∧ v0_4 ≤ r + 2 ∧ v0_6 ≤ p1)) := by
  unfold fn_X10_isSign
  refine zw_if (fun c1 => ?_) (fun c1 => ?_)
  · refine zw_if (fun c2 => ?_) (fun c2 => ?_)
    · refine zw_some ?_
      first | trivial | (try dsimp only); grind [zu_at, zu_atL]
    refine zw_some ?_
    first | trivial | (try dsimp only); grind [zu_at, zu_atL]
  refine zw_some ?_
  first | trivial | (try dsimp only); grind [zu_at, zu_atL]
set_option maxHeartbeats 1000000 in
theorem sf_X5_readValue (p1 : Int32) (p2 : Int32) (p3 : Int32) (v0_1 : Int32) (v0_2 : Int32) (v0_3 : Int32) (v1_2 : Int32) (v1_3 : Int32) (v1_4 : Int32) (v1_5 : Int32) (v1_6 : Int32) (v1_7 : Int32) (f2 : Nat → Int32) (f3 : Nat → Int32) (h_p1 : 0 ≤ p1 ∧ p1 ≤ 1) (h_v1_2 : 0 ≤ v1_2 ∧ v1_2 ≤ 1200) (h_v1_3 : 0 ≤ v1_3 ∧ v1_3 ≤ 1200) (h_v1_4 : 0 ≤ v1_4 ∧ v1_4 ≤ 5) (h_v1_5 : 0 ≤ v1_5 ∧ v1_5 ≤ 1200) (h_v1_7 : (-1) ≤ v1_7 ∧ v1_7 ≤ 12) : zw (fn_X5_readValue p1 p2 p3 v0_1 v0_2 v0_3 v1_2 v1_3 v1_4 v1_5 v1_6 v1_7 f2 f3) (fun r => 0 ≤ r.1 ∧ r.1 ≤ 1 ∧ 0 ≤ r.2.2.2.2.1 ∧ r.2.2.2.2.1 ≤ 1200 ∧ 0 ≤ r.2.2.2.2.2.1 ∧ r.2.2.2.2.2.1 ≤ 5 ∧ 0 ≤ r.2.2.2.2.2.2.1 ∧ r.2.2.2.2.2.2.1 ≤ 1200 ∧ (-1) ≤ r.2.2.2.2.2.2.2.2 ∧ r.2.2.2.2.2.2.2.2 ≤ 12 ∧ v1_3 ≤ r.2.2.2.2.1 ∧ (r.1 = 0 → 1 ≤ r.2.2.1 ∧ 0 ≤ r.2.2.2.1 ∧ r.1 ≤ p1 ∧ r.1 < r.2.2.1 ∧ r.1 ≤ r.2.2.2.1 ∧ r.1 ≤ r.2.2.2.2.2.2.1 ∧ r.1 ≤ r.2.2.2.2.2.2.2.2 + 1 ∧ r.1 ≤ v1_2 ∧ r.1 ≤ v1_3 ∧ r.1 ≤ v1_4 ∧ r.1 ≤ v1_5 ∧ r.1 ≤ v1_7 + 1 ∧ r.2.1 ≤ v0_1 ∧ r.2.2.1 ≤ 2 ∧ r.2.2.1 ≤ r.1 + 2 ∧ r.2.2.1 ≤ r.2.2.2.2.2.1 + 1 ∧ r.2.2.2.1 ≤ 1200 ∧ r.2.2.2.2.2.1 ≤ v1_4 + 4 ∧ v0_1 ≤ r.2.1) ∧ (¬ r.1 = 0 → 1 ≤ r.1 ∧ p1 ≤ r.1 ∧ p2 ≤ r.2.1 ∧ r.2.1 ≤ p3 ∧ r.2.2.1 ≤ v0_2 ∧ r.2.2.2.1 ≤ v0_3 ∧ r.2.2.2.2.2.1 ≤ r.1 + 4 ∧ r.2.2.2.2.2.1 ≤ v1_2 + 4 ∧ r.2.2.2.2.2.2.1 ≤ r.2.2.2.2.1 ∧ r.2.2.2.2.2.2.2.2 ≤ r.1 + 11 ∧ r.2.2.2.2.2.2.2.2 ≤ r.2.2.2.2.2.1 + 11 ∧ v0_2 ≤ r.2.2.1 ∧ v0_3 ≤ r.2.2.2.1 ∧ v1_3 ≤ r.2.2.2.2.2.2.1 ∧ v1_4 ≤ r.1 + 4 ∧ v1_7 ≤ r.1 + 11) ∧ (r.1 = 1 → p1 ≤ r.1 ∧ p2 ≤ r.2.1 ∧ r.2.1 ≤ p3 ∧ r.2.2.1 ≤ v0_2 ∧ r.2.2.2.1 ≤ v0_3 ∧ r.2.2.2.2.2.1 ≤ r.1 + 4 ∧ r.2.2.2.2.2.1 ≤ v1_2 + 4 ∧ r.2.2.2.2.2.2.1 ≤ r.2.2.2.2.1 ∧ r.2.2.2.2.2.2.2.2 ≤ r.1 + 11 ∧ r.2.2.2.2.2.2.2.2 ≤ r.2.2.2.2.2.1 + 11 ∧ v0_2 ≤ r.2.2.1 ∧ v0_3 ≤ r.2.2.2.1 ∧ v1_3 ≤ r.2.2.2.2.2.2.1 ∧ v1_4 ≤ r.1 + 4 ∧ v1_7 ≤ r.1 + 11) ∧ (¬ r.1 = 1 → 1 ≤ r.2.2.1 ∧ 0 ≤ r.2.2.2.1 ∧ r.1 ≤ 0 ∧ r.1 ≤ p1 ∧ r.1 < r.2.2.1 ∧ r.1 ≤ r.2.2.2.1 ∧ r.1 ≤ r.2.2.2.2.2.2.1 ∧ r.1 ≤ r.2.2.2.2.2.2.2.2 + 1 ∧ r.1 ≤ v1_2 ∧ r.1 ≤ v1_3 ∧ r.1 ≤ v1_4 ∧ r.1 ≤ v1_5 ∧ r.1 ≤ v1_7 + 1 ∧ r.2.1 ≤ v0_1 ∧ r.2.2.1 ≤ 2 ∧ r.2.2.1 ≤ r.1 + 2 ∧ r.2.2.1 ≤ r.2.2.2.2.2.1 + 1 ∧ r.2.2.2.1 ≤ 1200 ∧ r.2.2.2.2.2.1 ≤ v1_4 + 4 ∧ v0_1 ≤ r.2.1)) := by
  unfold fn_X5_readValue
  refine zw_zj (fun s_1 => 0 ≤ s_1 ∧ s_1 ≤ p1 ∧ s_1 ≤ v1_4) (fun s_1 Hj_1 => ?_) (fun j_1 hj_1 => ?_)
  · refine zw_zj (fun s_2 => 0 ≤ s_2.2.1 ∧ 0 ≤ s_2.2.2.1 ∧ (-1) ≤ s_2.2.2.2.2 ∧ s_2.1 ≤ 1200 ∧ s_2.2.1 ≤ 5 ∧ s_2.2.1 ≤ v1_4 + 4 ∧ s_2.2.2.1 ≤ 1200 ∧ s_2.2.2.2.2 ≤ 12 ∧ v1_3 ≤ s_2.1) (fun s_2 Hj_2 => ?_) (fun j_2 hj_2 => ?_)
    · refine zw_if (fun c1 => ?_) (fun c1 => ?_)
      · refine zw_zj (fun s_4 => True) (fun s_4 Hj_4 => ?_) (fun j_4 hj_4 => ?_)
        · refine zw_if (fun c2 => ?_) (fun c2 => ?_)
          · refine zw_zb0 (sf_X5_stopAt 2 v1_5) (fun o_6 ho_6 => ?_)
            refine zw_some ?_
            first | trivial | (try dsimp only); grind [zu_at, zu_atL]
          refine zw_if (fun c3 => ?_) (fun c3 => ?_)
          · refine zw_zb0 (sf_X10_advance v1_2 s_2.1 s_2.2.1 f2 f3 (by grind [zu_at, zu_atL]) (by grind [zu_at, zu_atL]) (by grind [zu_at, zu_atL])) (fun o_11 ho_11 => ?_)
            refine zw_some ?_
            first | trivial | (try dsimp only); grind [zu_at, zu_atL]
          refine zw_zb0 (sf_X5_stopAt 2 v1_5) (fun o_15 ho_15 => ?_)
          refine zw_some ?_
          first | trivial | (try dsimp only); grind [zu_at, zu_atL]
        refine zw_if (fun c4 => ?_) (fun c4 => ?_)
        · exact hj_4 _ (by grind [zu_at, zu_atL])
        exact hj_4 _ (by grind [zu_at, zu_atL])
      refine zw_zb0 (sf_X5_stopAt 1 s_2.2.2.1) (fun o_20 ho_20 => ?_)
      refine zw_some ?_
      first | trivial | (try dsimp only); grind [zu_at, zu_atL]
    refine zw_if (fun c5 => ?_) (fun c5 => ?_)
    · exact hj_2 _ (by grind [zu_at, zu_atL])
    refine zw_zb0 (sf_X10_advance v1_2 v1_3 v1_4 f2 f3 (by grind [zu_at, zu_atL]) (by grind [zu_at, zu_atL]) (by grind [zu_at, zu_atL])) (fun o_25 ho_25 => ?_)
    exact hj_2 _ (by grind [zu_at, zu_atL])
  refine zw_zj (fun _ => True) (fun s_29 Hj_29 => ?_) (fun j_29 hj_29 => ?_)
  · exact hj_1 _ (by grind [zu_at, zu_atL])
  refine zw_if (fun c6 => ?_) (fun c6 => ?_)
  · exact hj_29 _ (by grind [zu_at, zu_atL])
  refine zw_zb0 (sf_X10_isSign 45 v1_4 v1_6 (by grind [zu_at, zu_atL])) (fun o_31 ho_31 => ?_)
  refine zw_if (fun c7 => ?_) (fun c7 => ?_)
  · exact hj_29 _ (by grind [zu_at, zu_atL])
  exact hj_1 _ (by grind [zu_at, zu_atL])
set_option maxHeartbeats 1000000 in
theorem sf_X9_addFormat (p1 : Int32) (p2 : Int32) (p3 : Int32) (p4 : Int32) (v0_0 : Int32) (f1 : Nat → Int32) (f2 : Nat → Int32) (f3 : Nat → Int32) (f4 : Nat → Int32) (h_v0_0 : 0 ≤ v0_0 ∧ v0_0 ≤ 4) : zw (fn_X9_addFormat p1 p2 p3 p4 v0_0 f1 f2 f3 f4) (fun r => 0 ≤ r.1 ∧ r.1 ≤ 4 ∧ 1 ≤ r.1 ∧ r.1 ≤ v0_0 + 1 ∧ v0_0 ≤ r.1 ∧ (¬ r.1 = 4 → v0_0 ≤ 3 ∧ v0_0 < r.1)) := by
  unfold fn_X9_addFormat
  refine zw_if (fun c1 => ?_) (fun c1 => ?_)
  · refine zw_some ?_
    first | trivial | (try dsimp only); grind [zu_at, zu_atL]
  refine zw_zg32 4 (by decide) (by grind [zu_at, zu_atL]) ?_
  refine zw_some ?_
  first | trivial | (try dsimp only); grind [zu_at, zu_atL]
set_option maxHeartbeats 1000000 in
theorem sf_X5_readFormat (v0_1 : Int32) (v0_2 : Int32) (v0_3 : Int32) (v1_2 : Int32) (v1_3 : Int32) (v1_4 : Int32) (v1_5 : Int32) (v1_6 : Int32) (v1_7 : Int32) (v2_0 : Int32) (f3 : Nat → Int32) (v4_0 : Int32) (f5 : Nat → Int32) (f6 : Nat → Int32) (f7 : Nat → Int32) (f8 : Nat → Int32) (f9 : Nat → Int32) (f10 : Nat → Int32) (h_v1_2 : 0 ≤ v1_2 ∧ v1_2 ≤ 1200) (h_v1_3 : 0 ≤ v1_3 ∧ v1_3 ≤ 1200) (h_v1_4 : 0 ≤ v1_4 ∧ v1_4 ≤ 5) (h_v1_5 : 0 ≤ v1_5 ∧ v1_5 ≤ 1200) (h_v1_7 : (-1) ≤ v1_7 ∧ v1_7 ≤ 12) (h_v2_0 : 0 ≤ v2_0 ∧ v2_0 ≤ 4) (h_v4_0 : 0 ≤ v4_0 ∧ v4_0 ≤ 14) : zw (fn_X5_readFormat v0_1 v0_2 v0_3 v1_2 v1_3 v1_4 v1_5 v1_6 v1_7 v2_0 f3 v4_0 f5 f6 f7 f8 f9 f10) (fun r => 0 ≤ r.1 ∧ r.1 ≤ 1 ∧ 0 ≤ r.2.2.2.2.1 ∧ r.2.2.2.2.1 ≤ 1200 ∧ 0 ≤ r.2.2.2.2.2.1 ∧ r.2.2.2.2.2.1 ≤ 5 ∧ 0 ≤ r.2.2.2.2.2.2.1 ∧ r.2.2.2.2.2.2.1 ≤ 1200 ∧ (-1) ≤ r.2.2.2.2.2.2.2.2.1 ∧ r.2.2.2.2.2.2.2.2.1 ≤ 12 ∧ 0 ≤ r.2.2.2.2.2.2.2.2.2.1 ∧ r.2.2.2.2.2.2.2.2.2.1 ≤ 4 ∧ r.1 ≤ r.2.2.2.2.2.2.2.2.2.1 ∧ r.1 ≤ v1_4 ∧ r.2.2.2.2.2.1 ≤ v1_4 + 4 ∧ r.2.2.2.2.2.2.2.2.2.1 ≤ v2_0 + 1 ∧ v1_3 ≤ r.2.2.2.2.1 ∧ v1_4 ≤ r.2.2.2.2.2.1 + 1 ∧ v1_7 ≤ r.2.2.2.2.2.2.2.2.1 ∧ v2_0 ≤ r.2.2.2.2.2.2.2.2.2.1 ∧ (r.1 = 0 → 1 ≤ r.2.2.1 ∧ 0 ≤ r.2.2.2.1 ∧ r.1 < r.2.2.1 ∧ r.1 ≤ r.2.2.2.1 ∧ r.1 ≤ r.2.2.2.2.2.1 ∧ r.1 ≤ r.2.2.2.2.2.2.1 ∧ r.1 ≤ v1_2 ∧ r.1 ≤ v1_3 ∧ r.1 ≤ v1_5 ∧ r.1 ≤ v1_7 + 1 ∧ r.1 ≤ v2_0 ∧ r.1 ≤ v4_0 ∧ r.2.2.1 ≤ 3 ∧ r.2.2.1 ≤ r.1 + 3 ∧ r.2.2.1 ≤ r.2.2.2.2.2.1 + 2 ∧ r.2.2.1 ≤ v1_4 + 2 ∧ r.2.2.2.1 ≤ 1200 ∧ r.2.2.2.2.2.2.2.2.2.1 ≤ v2_0) ∧ (¬ r.1 = 0 → 1 ≤ r.1 ∧ 0 ≤ r.2.1 ∧ 1 ≤ r.2.2.2.2.2.2.2.2.2.1 ∧ 1 ≤ v1_4 ∧ r.1 ≤ r.2.1 + 1 ∧ r.2.1 ≤ 999 ∧ r.2.2.1 ≤ v0_2 ∧ r.2.2.2.1 ≤ v0_3 ∧ r.2.2.2.2.2.1 ≤ r.1 + 4 ∧ r.2.2.2.2.2.1 ≤ v1_2 + 4 ∧ r.2.2.2.2.2.2.1 ≤ r.2.2.2.2.1 ∧ r.2.2.2.2.2.2.2.2.1 ≤ r.1 + 11 ∧ r.2.2.2.2.2.2.2.2.1 ≤ r.2.2.2.2.2.1 + 11 ∧ r.2.2.2.2.2.2.2.2.1 ≤ v1_4 + 11 ∧ r.2.2.2.2.2.2.2.2.2.1 ≤ r.1 + 3 ∧ r.2.2.2.2.2.2.2.2.2.1 ≤ v1_4 + 3 ∧ v0_2 ≤ r.2.2.1 ∧ v0_3 ≤ r.2.2.2.1 ∧ v1_3 ≤ r.2.2.2.2.2.2.1 ∧ v1_4 ≤ 1 ∧ v1_4 ≤ r.1 ∧ v1_4 ≤ r.2.1 + 1 ∧ v1_4 ≤ r.2.2.2.2.2.2.2.2.1 + 2 ∧ v1_4 ≤ r.2.2.2.2.2.2.2.2.2.1 ∧ v1_4 ≤ v1_2 + 1 ∧ v1_4 ≤ v1_3 + 1 ∧ v1_4 ≤ v1_5 + 1 ∧ v1_4 ≤ v1_7 + 2 ∧ v1_4 ≤ v4_0 + 1 ∧ v1_7 ≤ (-1) ∧ v1_7 + 2 ≤ r.1 ∧ v1_7 < r.2.1 ∧ v1_7 < r.2.2.2.2.2.1 ∧ v1_7 + 2 ≤ r.2.2.2.2.2.2.2.2.2.1 ∧ v1_7 < v1_2 ∧ v1_7 < v1_3 ∧ v1_7 + 2 ≤ v1_4 ∧ v1_7 < v1_5 ∧ v1_7 < v4_0 ∧ v4_0 ≤ r.1 + 13 ∧ v4_0 ≤ v1_4 + 13) ∧ (r.1 = 1 → 0 ≤ r.2.1 ∧ 1 ≤ r.2.2.2.2.2.2.2.2.2.1 ∧ 1 ≤ v1_4 ∧ r.1 ≤ r.2.1 + 1 ∧ r.2.1 ≤ 999 ∧ r.2.2.1 ≤ v0_2 ∧ r.2.2.2.1 ≤ v0_3 ∧ r.2.2.2.2.2.1 ≤ r.1 + 4 ∧ r.2.2.2.2.2.1 ≤ v1_2 + 4 ∧ r.2.2.2.2.2.2.1 ≤ r.2.2.2.2.1 ∧ r.2.2.2.2.2.2.2.2.1 ≤ r.1 + 11 ∧ r.2.2.2.2.2.2.2.2.1 ≤ r.2.2.2.2.2.1 + 11 ∧ r.2.2.2.2.2.2.2.2.1 ≤ v1_4 + 11 ∧ r.2.2.2.2.2.2.2.2.2.1 ≤ r.1 + 3 ∧ r.2.2.2.2.2.2.2.2.2.1 ≤ v1_4 + 3 ∧ v0_2 ≤ r.2.2.1 ∧ v0_3 ≤ r.2.2.2.1 ∧ v1_3 ≤ r.2.2.2.2.2.2.1 ∧ v1_4 ≤ 1 ∧ v1_4 ≤ r.1 ∧ v1_4 ≤ r.2.1 + 1 ∧ v1_4 ≤ r.2.2.2.2.2.2.2.2.1 + 2 ∧ v1_4 ≤ r.2.2.2.2.2.2.2.2.2.1 ∧ v1_4 ≤ v1_2 + 1 ∧ v1_4 ≤ v1_3 + 1 ∧ v1_4 ≤ v1_5 + 1 ∧ v1_4 ≤ v1_7 + 2 ∧ v1_4 ≤ v4_0 + 1 ∧ v1_7 ≤ (-1) ∧ v1_7 + 2 ≤ r.1 ∧ v1_7 < r.2.1 ∧ v1_7 < r.2.2.2.2.2.1 ∧ v1_7 + 2 ≤ r.2.2.2.2.2.2.2.2.2.1 ∧ v1_7 < v1_2 ∧ v1_7 < v1_3 ∧ v1_7 + 2 ≤ v1_4 ∧ v1_7 < v1_5 ∧ v1_7 < v4_0 ∧ v4_0 ≤ r.1 + 13 ∧ v4_0 ≤ v1_4 + 13) ∧ (¬ r.1 = 1 → 1 ≤ r.2.2.1 ∧ 0 ≤ r.2.2.2.1 ∧ r.1 ≤ 0 ∧ r.1 < r.2.2.1 ∧ r.1 ≤ r.2.2.2.1 ∧ r.1 ≤ r.2.2.2.2.2.1 ∧ r.1 ≤ r.2.2.2.2.2.2.1 ∧ r.1 ≤ v1_2 ∧ r.1 ≤ v1_3 ∧ r.1 ≤ v1_5 ∧ r.1 ≤ v1_7 + 1 ∧ r.1 ≤ v2_0 ∧ r.1 ≤ v4_0 ∧ r.2.2.1 ≤ 3 ∧ r.2.2.1 ≤ r.1 + 3 ∧ r.2.2.1 ≤ r.2.2.2.2.2.1 + 2 ∧ r.2.2.1 ≤ v1_4 + 2 ∧ r.2.2.2.1 ≤ 1200 ∧ r.2.2.2.2.2.2.2.2.2.1 ≤ v2_0)) := by
  unfold fn_X5_readFormat
  refine zw_zb0 (sf_X5_readNewName v0_1 v0_2 v0_3 v1_2 v1_3 v1_4 v1_5 v1_6 v1_7 v2_0 f3 v4_0 f5 f6 f7 (by grind [zu_at, zu_atL]) (by grind [zu_at, zu_atL]) (by grind [zu_at, zu_atL]) (by grind [zu_at, zu_atL]) (by grind [zu_at, zu_atL]) (by grind [zu_at, zu_atL]) (by grind [zu_at, zu_atL])) (fun o_1 ho_1 => ?_)
  refine zw_if (fun c1 => ?_) (fun c1 => ?_)
  · refine zw_some ?_
    first | trivial | (try dsimp only); grind [zu_at, zu_atL]
  refine zw_zb0 (sf_X5_readOwn 1 o_1.2.2.1 o_1.2.2.2.1 v1_2 o_1.2.2.2.2.1 o_1.2.2.2.2.2.1 o_1.2.2.2.2.2.2.1 o_1.2.2.2.2.2.2.2.1 o_1.2.2.2.2.2.2.2.2 f6 f7 (by grind [zu_at, zu_atL]) (by grind [zu_at, zu_atL]) (by grind [zu_at, zu_atL]) (by grind [zu_at, zu_atL]) (by grind [zu_at, zu_atL])) (fun o_6 ho_6 => ?_)
  refine zw_if (fun c2 => ?_) (fun c2 => ?_)
  · refine zw_some ?_
    first | trivial | (try dsimp only); grind [zu_at, zu_atL]
  refine zw_zb0 (sf_X5_readValue 0 1 1000000 o_1.2.1 o_6.2.1 o_6.2.2.1 v1_2 o_6.2.2.2.1 o_6.2.2.2.2.1 o_6.2.2.2.2.2.1 o_6.2.2.2.2.2.2.1 o_6.2.2.2.2.2.2.2 f6 f7 (by grind [zu_at, zu_atL]) (by grind [zu_at, zu_atL]) (by grind [zu_at, zu_atL]) (by grind [zu_at, zu_atL]) (by grind [zu_at, zu_atL]) (by grind [zu_at, zu_atL])) (fun o_11 ho_11 => ?_)
  refine zw_if (fun c3 => ?_) (fun c3 => ?_)
  · refine zw_some ?_
    first | trivial | (try dsimp only); grind [zu_at, zu_atL]
  refine zw_zb0 (sf_X5_readOwn 2 o_11.2.2.1 o_11.2.2.2.1 v1_2 o_11.2.2.2.2.1 o_11.2.2.2.2.2.1 o_11.2.2.2.2.2.2.1 o_11.2.2.2.2.2.2.2.1 o_11.2.2.2.2.2.2.2.2 f6 f7 (by grind [zu_at, zu_atL]) (by grind [zu_at, zu_atL]) (by grind [zu_at, zu_atL]) (by grind [zu_at, zu_atL]) (by grind [zu_at, zu_atL])) (fun o_16 ho_16 => ?_)
  refine zw_if (fun c4 => ?_) (fun c4 => ?_)
  · refine zw_some ?_
    first | trivial | (try dsimp only); grind [zu_at, zu_atL]
  refine zw_zb0 (sf_X5_readValue 0 1 1000000000 o_11.2.1 o_16.2.1 o_16.2.2.1 v1_2 o_16.2.2.2.1 o_16.2.2.2.2.1 o_16.2.2.2.2.2.1 o_16.2.2.2.2.2.2.1 o_16.2.2.2.2.2.2.2 f6 f7 (by grind [zu_at, zu_atL]) (by grind [zu_at, zu_atL]) (by grind [zu_at, zu_atL]) (by grind [zu_at, zu_atL]) (by grind [zu_at, zu_atL]) (by grind [zu_at, zu_atL])) (fun o_21 ho_21 => ?_)
  refine zw_if (fun c5 => ?_) (fun c5 => ?_)
  · refine zw_some ?_
    first | trivial | (try dsimp only); grind [zu_at, zu_atL]
  refine zw_zb0 (sf_X5_readOwn 3 o_21.2.2.1 o_21.2.2.2.1 v1_2 o_21.2.2.2.2.1 o_21.2.2.2.2.2.1 o_21.2.2.2.2.2.2.1 o_21.2.2.2.2.2.2.2.1 o_21.2.2.2.2.2.2.2.2 f6 f7 (by grind [zu_at, zu_atL]) (by grind [zu_at, zu_atL]) (by grind [zu_at, zu_atL]) (by grind [zu_at, zu_atL]) (by grind [zu_at, zu_atL])) (fun o_26 ho_26 => ?_)
  refine zw_if (fun c6 => ?_) (fun c6 => ?_)
  · refine zw_some ?_
    first | trivial | (try dsimp only); grind [zu_at, zu_atL]
  refine zw_zb0 (sf_X5_readValue 0 0 999 o_21.2.1 o_26.2.1 o_26.2.2.1 v1_2 o_26.2.2.2.1 o_26.2.2.2.2.1 o_26.2.2.2.2.2.1 o_26.2.2.2.2.2.2.1 o_26.2.2.2.2.2.2.2 f6 f7 (by grind [zu_at, zu_atL]) (by grind [zu_at, zu_atL]) (by grind [zu_at, zu_atL]) (by grind [zu_at, zu_atL]) (by grind [zu_at, zu_atL]) (by grind [zu_at, zu_atL])) (fun o_31 ho_31 => ?_)
  refine zw_if (fun c7 => ?_) (fun c7 => ?_)
  · refine zw_some ?_
    first | trivial | (try dsimp only); grind [zu_at, zu_atL]
  refine zw_zb0 (sf_X9_addFormat o_1.2.1 o_11.2.1 o_21.2.1 o_31.2.1 v2_0 f3 f8 f9 f10 (by grind [zu_at, zu_atL])) (fun o_36 ho_36 => ?_)
  refine zw_some ?_
  first | trivial | (try dsimp only); grind [zu_at, zu_atL]
set_option maxHeartbeats 1000000 in
theorem sf_X5_readKnown (p1 : Int32) (v0_1 : Int32) (v0_2 : Int32) (v0_3 : Int32) (v1_2 : Int32) (v1_3 : Int32) (v1_4 : Int32) (v1_5 : Int32) (v1_6 : Int32) (v1_7 : Int32) (f2 : Nat → Int32) (f3 : Nat → Int32) (h_v1_2 : 0 ≤ v1_2 ∧ v1_2 ≤ 1200) (h_v1_3 : 0 ≤ v1_3 ∧ v1_3 ≤ 1200) (h_v1_4 : 0 ≤ v1_4 ∧ v1_4 ≤ 5) (h_v1_5 : 0 ≤ v1_5 ∧ v1_5 ≤ 1200) (h_v1_7 : (-1) ≤ v1_7 ∧ v1_7 ≤ 12) : zw (fn_X5_readKnown p1 v0_1 v0_2 v0_3 v1_2 v1_3 v1_4 v1_5 v1_6 v1_7 f2 f3) (fun r => 0 ≤ r.1 ∧ r.1 ≤ 1 ∧ 0 ≤ r.2.2.2.2.1 ∧ r.2.2.2.2.1 ≤ 1200 ∧ 0 ≤ r.2.2.2.2.2.1 ∧ r.2.2.2.2.2.1 ≤ 5 ∧ 0 ≤ r.2.2.2.2.2.2.1 ∧ r.2.2.2.2.2.2.1 ≤ 1200 ∧ (-1) ≤ r.2.2.2.2.2.2.2.2 ∧ r.2.2.2.2.2.2.2.2 ≤ 12 ∧ r.1 ≤ v1_4 ∧ r.2.2.2.2.2.1 ≤ v1_4 + 4 ∧ v1_3 ≤ r.2.2.2.2.1 ∧ v1_4 ≤ r.2.2.2.2.2.1 + 1 ∧ v1_7 ≤ r.2.2.2.2.2.2.2.2 ∧ (r.1 = 0 → 1 ≤ r.2.2.1 ∧ 0 ≤ r.2.2.2.1 ∧ r.1 < r.2.2.1 ∧ r.1 ≤ r.2.2.2.1 ∧ r.1 ≤ r.2.2.2.2.1 ∧ r.1 ≤ r.2.2.2.2.2.1 ∧ r.1 ≤ r.2.2.2.2.2.2.1 ∧ r.1 ≤ r.2.2.2.2.2.2.2.2 + 1 ∧ r.1 ≤ v1_2 ∧ r.1 ≤ v1_3 ∧ r.1 ≤ v1_5 ∧ r.1 ≤ v1_7 + 1 ∧ r.2.1 ≤ v0_1 ∧ r.2.2.1 ≤ 3 ∧ r.2.2.1 ≤ r.1 + 3 ∧ r.2.2.1 ≤ r.2.2.2.2.2.1 + 2 ∧ r.2.2.1 ≤ v1_4 + 2 ∧ r.2.2.2.1 ≤ 1200 ∧ r.2.2.2.1 ≤ r.2.2.2.2.2.2.1 ∧ r.2.2.2.1 ≤ v1_5 ∧ r.2.2.2.2.1 ≤ v1_3 ∧ r.2.2.2.2.2.1 ≤ v1_4 ∧ r.2.2.2.2.2.2.1 ≤ r.2.2.2.1 ∧ r.2.2.2.2.2.2.1 ≤ v1_5 ∧ r.2.2.2.2.2.2.2.1 ≤ v1_6 ∧ r.2.2.2.2.2.2.2.2 ≤ v1_7 ∧ v0_1 ≤ r.2.1 ∧ v1_4 ≤ r.2.2.2.2.2.1 ∧ v1_5 ≤ r.2.2.2.1 ∧ v1_5 ≤ r.2.2.2.2.2.2.1 ∧ v1_6 ≤ r.2.2.2.2.2.2.2.1) ∧ (¬ r.1 = 0 → 1 ≤ r.1 ∧ 1 ≤ v1_4 ∧ p1 ≤ r.2.1 ∧ r.2.1 ≤ p1 ∧ r.2.2.1 ≤ v0_2 ∧ r.2.2.2.1 ≤ v0_3 ∧ r.2.2.2.2.2.1 ≤ r.1 + 4 ∧ r.2.2.2.2.2.1 ≤ v1_2 + 4 ∧ r.2.2.2.2.2.2.1 ≤ r.2.2.2.2.1 ∧ r.2.2.2.2.2.2.2.2 ≤ r.1 + 11 ∧ r.2.2.2.2.2.2.2.2 ≤ r.2.2.2.2.2.1 + 11 ∧ r.2.2.2.2.2.2.2.2 ≤ v1_4 + 11 ∧ v0_2 ≤ r.2.2.1 ∧ v0_3 ≤ r.2.2.2.1 ∧ v1_3 ≤ r.2.2.2.2.2.2.1 ∧ v1_4 ≤ 1 ∧ v1_4 ≤ r.1 ∧ v1_4 ≤ r.2.2.2.2.2.2.2.2 + 2 ∧ v1_4 ≤ v1_2 + 1 ∧ v1_4 ≤ v1_3 + 1 ∧ v1_4 ≤ v1_5 + 1 ∧ v1_4 ≤ v1_7 + 2 ∧ v1_7 ≤ (-1) ∧ v1_7 + 2 ≤ r.1 ∧ v1_7 < r.2.2.2.2.2.1 ∧ v1_7 < v1_2 ∧ v1_7 < v1_3 ∧ v1_7 + 2 ≤ v1_4 ∧ v1_7 < v1_5) ∧ (r.1 = 1 → 1 ≤ v1_4 ∧ p1 ≤ r.2.1 ∧ r.2.1 ≤ p1 ∧ r.2.2.1 ≤ v0_2 ∧ r.2.2.2.1 ≤ v0_3 ∧ r.2.2.2.2.2.1 ≤ r.1 + 4 ∧ r.2.2.2.2.2.1 ≤ v1_2 + 4 ∧ r.2.2.2.2.2.2.1 ≤ r.2.2.2.2.1 ∧ r.2.2.2.2.2.2.2.2 ≤ r.1 + 11 ∧ r.2.2.2.2.2.2.2.2 ≤ r.2.2.2.2.2.1 + 11 ∧ r.2.2.2.2.2.2.2.2 ≤ v1_4 + 11 ∧ v0_2 ≤ r.2.2.1 ∧ v0_3 ≤ r.2.2.2.1 ∧ v1_3 ≤ r.2.2.2.2.2.2.1 ∧ v1_4 ≤ 1 ∧ v1_4 ≤ r.1 ∧ v1_4 ≤ r.2.2.2.2.2.2.2.2 + 2 ∧ v1_4 ≤ v1_2 + 1 ∧ v1_4 ≤ v1_3 + 1 ∧ v1_4 ≤ v1_5 + 1 ∧ v1_4 ≤ v1_7 + 2 ∧ v1_7 ≤ (-1) ∧ v1_7 + 2 ≤ r.1 ∧ v1_7 < r.2.2.2.2.2.1 ∧ v1_7 < v1_2 ∧ v1_7 < v1_3 ∧ v1_7 + 2 ≤ v1_4 ∧ v1_7 < v1_5) ∧ (¬ r.1 = 1 → 1 ≤ r.2.2.1 ∧ 0 ≤ r.2.2.2.1 ∧ r.1 ≤ 0 ∧ r.1 < r.2.2.1 ∧ r.1 ≤ r.2.2.2.1 ∧ r.1 ≤ r.2.2.2.2.1 ∧ r.1 ≤ r.2.2.2.2.2.1 ∧ r.1 ≤ r.2.2.2.2.2.2.1 ∧ r.1 ≤ r.2.2.2.2.2.2.2.2 + 1 ∧ r.1 ≤ v1_2 ∧ r.1 ≤ v1_3 ∧ r.1 ≤ v1_5 ∧ r.1 ≤ v1_7 + 1 ∧ r.2.1 ≤ v0_1 ∧ r.2.2.1 ≤ 3 ∧ r.2.2.1 ≤ r.1 + 3 ∧ r.2.2.1 ≤ r.2.2.2.2.2.1 + 2 ∧ r.2.2.1 ≤ v1_4 + 2 ∧ r.2.2.2.1 ≤ 1200 ∧ r.2.2.2.1 ≤ r.2.2.2.2.2.2.1 ∧ r.2.2.2.1 ≤ v1_5 ∧ r.2.2.2.2.1 ≤ v1_3 ∧ r.2.2.2.2.2.1 ≤ v1_4 ∧ r.2.2.2.2.2.2.1 ≤ r.2.2.2.1 ∧ r.2.2.2.2.2.2.1 ≤ v1_5 ∧ r.2.2.2.2.2.2.2.1 ≤ v1_6 ∧ r.2.2.2.2.2.2.2.2 ≤ v1_7 ∧ v0_1 ≤ r.2.1 ∧ v1_4 ≤ r.2.2.2.2.2.1 ∧ v1_5 ≤ r.2.2.2.1 ∧ v1_5 ≤ r.2.2.2.2.2.2.1 ∧ v1_6 ≤ r.2.2.2.2.2.2.2.1)) := by
  unfold fn_X5_readKnown
  refine zw_zb0 (sf_X10_isName v1_4 v1_7 (by grind [zu_at, zu_atL]) (by grind [zu_at, zu_atL])) (fun o_1 ho_1 => ?_)
  refine zw_if (fun c1 => ?_) (fun c1 => ?_)
  · refine zw_zb0 (sf_X5_stopAt 1 v1_5) (fun o_15 ho_15 => ?_)
    refine zw_some ?_
    first | trivial | (try dsimp only); grind [zu_at, zu_atL]
  refine zw_if (fun c2 => ?_) (fun c2 => ?_)
  · refine zw_zb0 (sf_X5_stopAt 3 v1_5) (fun o_11 ho_11 => ?_)
    refine zw_some ?_
    first | trivial | (try dsimp only); grind [zu_at, zu_atL]
  refine zw_zb0 (sf_X10_advance v1_2 v1_3 v1_4 f2 f3 (by grind [zu_at, zu_atL]) (by grind [zu_at, zu_atL]) (by grind [zu_at, zu_atL])) (fun o_7 ho_7 => ?_)
  refine zw_some ?_
  first | trivial | (try dsimp only); grind [zu_at, zu_atL]
set_option maxHeartbeats 1000000 in
theorem sf_X5_readAnswer (v0_1 : Int32) (v0_2 : Int32) (v0_3 : Int32) (v2_2 : Int32) (v2_3 : Int32) (v2_4 : Int32) (v2_5 : Int32) (v2_6 : Int32) (v2_7 : Int32) (v3_0 : Int32) (f4 : Nat → Int32) (f5 : Nat → Int32) (f6 : Nat → Int32) (f7 : Nat → Int32) (h_v2_2 : 0 ≤ v2_2 ∧ v2_2 ≤ 1200) (h_v2_3 : 0 ≤ v2_3 ∧ v2_3 ≤ 1200) (h_v2_4 : 0 ≤ v2_4 ∧ v2_4 ≤ 5) (h_v2_5 : 0 ≤ v2_5 ∧ v2_5 ≤ 1200) (h_v2_7 : (-1) ≤ v2_7 ∧ v2_7 ≤ 12) (h_v3_0 : 0 ≤ v3_0 ∧ v3_0 ≤ 14) : zw (fn_X5_readAnswer v0_1 v0_2 v0_3 v2_2 v2_3 v2_4 v2_5 v2_6 v2_7 v3_0 f4 f5 f6 f7) (fun r => 0 ≤ r.1 ∧ r.1 ≤ 1 ∧ 0 ≤ r.2.2.2.2.1 ∧ r.2.2.2.2.1 ≤ 1200 ∧ 0 ≤ r.2.2.2.2.2.1 ∧ r.2.2.2.2.2.1 ≤ 5 ∧ 0 ≤ r.2.2.2.2.2.2.1 ∧ r.2.2.2.2.2.2.1 ≤ 1200 ∧ (-1) ≤ r.2.2.2.2.2.2.2.2.1 ∧ r.2.2.2.2.2.2.2.2.1 ≤ 12 ∧ r.1 ≤ v2_4 ∧ r.2.2.2.2.2.1 ≤ v2_4 + 4 ∧ v2_3 ≤ r.2.2.2.2.1 ∧ v2_4 ≤ r.2.2.2.2.2.1 + 1 ∧ v2_7 ≤ r.2.2.2.2.2.2.2.2.1 ∧ (r.1 = 0 → 1 ≤ r.2.2.1 ∧ 0 ≤ r.2.2.2.1 ∧ r.1 < r.2.2.1 ∧ r.1 ≤ r.2.2.2.1 ∧ r.1 ≤ r.2.2.2.2.2.1 ∧ r.1 ≤ r.2.2.2.2.2.2.1 ∧ r.1 ≤ v2_2 ∧ r.1 ≤ v2_3 ∧ r.1 ≤ v2_5 ∧ r.1 ≤ v2_7 + 1 ∧ r.1 ≤ v3_0 ∧ r.2.2.1 ≤ 3 ∧ r.2.2.1 ≤ r.1 + 3 ∧ r.2.2.1 ≤ r.2.2.2.2.2.1 + 2 ∧ r.2.2.1 ≤ v2_4 + 2 ∧ r.2.2.2.1 ≤ 1200) ∧ (¬ r.1 = 0 → 1 ≤ r.1 ∧ 0 ≤ r.2.1 ∧ 1 ≤ v2_4 ∧ r.1 ≤ r.2.1 + 1 ∧ r.2.1 ≤ 1000000 ∧ r.2.2.1 ≤ v0_2 ∧ r.2.2.2.1 ≤ v0_3 ∧ r.2.2.2.2.2.1 ≤ r.1 + 4 ∧ r.2.2.2.2.2.1 ≤ v2_2 + 4 ∧ r.2.2.2.2.2.2.1 ≤ r.2.2.2.2.1 ∧ r.2.2.2.2.2.2.2.2.1 ≤ r.1 + 11 ∧ r.2.2.2.2.2.2.2.2.1 ≤ r.2.2.2.2.2.1 + 11 ∧ r.2.2.2.2.2.2.2.2.1 ≤ v2_4 + 11 ∧ v0_2 ≤ r.2.2.1 ∧ v0_3 ≤ r.2.2.2.1 ∧ v2_3 ≤ r.2.2.2.2.2.2.1 ∧ v2_4 ≤ 1 ∧ v2_4 ≤ r.1 ∧ v2_4 ≤ r.2.1 + 1 ∧ v2_4 ≤ r.2.2.2.2.2.2.2.2.1 + 2 ∧ v2_4 ≤ v2_2 + 1 ∧ v2_4 ≤ v2_3 + 1 ∧ v2_4 ≤ v2_5 + 1 ∧ v2_4 ≤ v2_7 + 2 ∧ v2_4 ≤ v3_0 + 1 ∧ v2_7 ≤ (-1) ∧ v2_7 + 2 ≤ r.1 ∧ v2_7 < r.2.1 ∧ v2_7 < r.2.2.2.2.2.1 ∧ v2_7 < v2_2 ∧ v2_7 < v2_3 ∧ v2_7 + 2 ≤ v2_4 ∧ v2_7 < v2_5 ∧ v2_7 < v3_0 ∧ v3_0 ≤ r.1 + 13 ∧ v3_0 ≤ v2_4 + 13) ∧ (r.1 = 1 → 0 ≤ r.2.1 ∧ 1 ≤ v2_4 ∧ r.1 ≤ r.2.1 + 1 ∧ r.2.1 ≤ 1000000 ∧ r.2.2.1 ≤ v0_2 ∧ r.2.2.2.1 ≤ v0_3 ∧ r.2.2.2.2.2.1 ≤ r.1 + 4 ∧ r.2.2.2.2.2.1 ≤ v2_2 + 4 ∧ r.2.2.2.2.2.2.1 ≤ r.2.2.2.2.1 ∧ r.2.2.2.2.2.2.2.2.1 ≤ r.1 + 11 ∧ r.2.2.2.2.2.2.2.2.1 ≤ r.2.2.2.2.2.1 + 11 ∧ r.2.2.2.2.2.2.2.2.1 ≤ v2_4 + 11 ∧ v0_2 ≤ r.2.2.1 ∧ v0_3 ≤ r.2.2.2.1 ∧ v2_3 ≤ r.2.2.2.2.2.2.1 ∧ v2_4 ≤ 1 ∧ v2_4 ≤ r.1 ∧ v2_4 ≤ r.2.1 + 1 ∧ v2_4 ≤ r.2.2.2.2.2.2.2.2.1 + 2 ∧ v2_4 ≤ v2_2 + 1 ∧ v2_4 ≤ v2_3 + 1 ∧ v2_4 ≤ v2_5 + 1 ∧ v2_4 ≤ v2_7 + 2 ∧ v2_4 ≤ v3_0 + 1 ∧ v2_7 ≤ (-1) ∧ v2_7 + 2 ≤ r.1 ∧ v2_7 < r.2.1 ∧ v2_7 < r.2.2.2.2.2.1 ∧ v2_7 < v2_2 ∧ v2_7 < v2_3 ∧ v2_7 + 2 ≤ v2_4 ∧ v2_7 < v2_5 ∧ v2_7 < v3_0 ∧ v3_0 ≤ r.1 + 13 ∧ v3_0 ≤ v2_4 + 13) ∧ (¬ r.1 = 1 → 1 ≤ r.2.2.1 ∧ 0 ≤ r.2.2.2.1 ∧ r.1 ≤ 0 ∧ r.1 < r.2.2.1 ∧ r.1 ≤ r.2.2.2.1 ∧ r.1 ≤ r.2.2.2.2.2.1 ∧ r.1 ≤ r.2.2.2.2.2.2.1 ∧ r.1 ≤ v2_2 ∧ r.1 ≤ v2_3 ∧ r.1 ≤ v2_5 ∧ r.1 ≤ v2_7 + 1 ∧ r.1 ≤ v3_0 ∧ r.2.2.1 ≤ 3 ∧ r.2.2.1 ≤ r.1 + 3 ∧ r.2.2.1 ≤ r.2.2.2.2.2.1 + 2 ∧ r.2.2.1 ≤ v2_4 + 2 ∧ r.2.2.2.1 ≤ 1200)) := by
  unfold fn_X5_readAnswer
  refine zw_zb0 (sf_X4_find v2_6 v3_0 f4 (by grind [zu_at, zu_atL])) (fun o_1 ho_1 => ?_)
  refine zw_zb0 (sf_X5_readKnown o_1 v0_1 v0_2 v0_3 v2_2 v2_3 v2_4 v2_5 v2_6 v2_7 f5 f6 (by grind [zu_at, zu_atL]) (by grind [zu_at, zu_atL]) (by grind [zu_at, zu_atL]) (by grind [zu_at, zu_atL]) (by grind [zu_at, zu_atL])) (fun o_5 ho_5 => ?_)
  refine zw_if (fun c1 => ?_) (fun c1 => ?_)
  · refine zw_some ?_
    first | trivial | (try dsimp only); grind [zu_at, zu_atL]
  refine zw_zb0 (sf_X5_readOwn 12 o_5.2.2.1 o_5.2.2.2.1 v2_2 o_5.2.2.2.2.1 o_5.2.2.2.2.2.1 o_5.2.2.2.2.2.2.1 o_5.2.2.2.2.2.2.2.1 o_5.2.2.2.2.2.2.2.2 f5 f6 (by grind [zu_at, zu_atL]) (by grind [zu_at, zu_atL]) (by grind [zu_at, zu_atL]) (by grind [zu_at, zu_atL]) (by grind [zu_at, zu_atL])) (fun o_10 ho_10 => ?_)
  refine zw_if (fun c2 => ?_) (fun c2 => ?_)
  · refine zw_some ?_
    first | trivial | (try dsimp only); grind [zu_at, zu_atL]
  refine zw_zb0 (sf_X5_readValue 0 0 1000000 o_5.2.1 o_10.2.1 o_10.2.2.1 v2_2 o_10.2.2.2.1 o_10.2.2.2.2.1 o_10.2.2.2.2.2.1 o_10.2.2.2.2.2.2.1 o_10.2.2.2.2.2.2.2 f5 f6 (by grind [zu_at, zu_atL]) (by grind [zu_at, zu_atL]) (by grind [zu_at, zu_atL]) (by grind [zu_at, zu_atL]) (by grind [zu_at, zu_atL]) (by grind [zu_at, zu_atL])) (fun o_15 ho_15 => ?_)
  refine zw_if (fun c3 => ?_) (fun c3 => ?_)
  · refine zw_some ?_
    first | trivial | (try dsimp only); grind [zu_at, zu_atL]
  refine zw_zb0 (sf_X4_allow o_5.2.1 o_15.2.1 v3_0 f7 (by grind [zu_at, zu_atL])) (fun o_20 ho_20 => ?_)
  refine zw_some ?_
  first | trivial | (try dsimp only); grind [zu_at, zu_atL]
set_option maxHeartbeats 1000000 in
theorem sf_X5_readCast (v0_1 : Int32) (v0_2 : Int32) (v0_3 : Int32) (v1_2 : Int32) (v1_3 : Int32) (v1_4 : Int32) (v1_5 : Int32) (v1_6 : Int32) (v1_7 : Int32) (f2 : Nat → Int32) (f3 : Nat → Int32) (v4_5 : Int32) (h_v1_2 : 0 ≤ v1_2 ∧ v1_2 ≤ 1200) (h_v1_3 : 0 ≤ v1_3 ∧ v1_3 ≤ 1200) (h_v1_4 : 0 ≤ v1_4 ∧ v1_4 ≤ 5) (h_v1_5 : 0 ≤ v1_5 ∧ v1_5 ≤ 1200) (h_v1_7 : (-1) ≤ v1_7 ∧ v1_7 ≤ 12) : zw (fn_X5_readCast v0_1 v0_2 v0_3 v1_2 v1_3 v1_4 v1_5 v1_6 v1_7 f2 f3 v4_5) (fun r => 0 ≤ r.1 ∧ r.1 ≤ 1 ∧ 0 ≤ r.2.2.2.2.1 ∧ r.2.2.2.2.1 ≤ 1200 ∧ 0 ≤ r.2.2.2.2.2.1 ∧ r.2.2.2.2.2.1 ≤ 5 ∧ 0 ≤ r.2.2.2.2.2.2.1 ∧ r.2.2.2.2.2.2.1 ≤ 1200 ∧ (-1) ≤ r.2.2.2.2.2.2.2.2.1 ∧ r.2.2.2.2.2.2.2.2.1 ≤ 12 ∧ v1_3 ≤ r.2.2.2.2.1 ∧ (r.1 = 0 → 1 ≤ r.2.2.1 ∧ 0 ≤ r.2.2.2.1 ∧ r.1 < r.2.2.1 ∧ r.1 ≤ r.2.2.2.1 ∧ r.1 ≤ r.2.2.2.2.2.2.1 ∧ r.1 ≤ r.2.2.2.2.2.2.2.2.1 + 1 ∧ r.1 ≤ v1_2 ∧ r.1 ≤ v1_3 ∧ r.1 ≤ v1_4 ∧ r.1 ≤ v1_5 ∧ r.1 ≤ v1_7 + 1 ∧ r.2.1 ≤ v0_1 ∧ r.2.2.1 ≤ 2 ∧ r.2.2.1 ≤ r.1 + 2 ∧ r.2.2.1 ≤ r.2.2.2.2.2.1 + 1 ∧ r.2.2.2.1 ≤ 1200 ∧ r.2.2.2.2.2.1 ≤ v1_4 + 4 ∧ r.2.2.2.2.2.2.2.2.2 ≤ v4_5 ∧ v0_1 ≤ r.2.1 ∧ v4_5 ≤ r.2.2.2.2.2.2.2.2.2) ∧ (¬ r.1 = 0 → 1 ≤ r.1 ∧ 0 ≤ r.2.1 ∧ 0 ≤ r.2.2.2.2.2.2.2.2.2 ∧ r.1 ≤ r.2.1 + 1 ∧ r.1 ≤ r.2.2.2.2.2.2.2.2.2 + 1 ∧ r.2.1 ≤ 999 ∧ r.2.1 ≤ r.2.2.2.2.2.2.2.2.2 ∧ r.2.2.1 ≤ v0_2 ∧ r.2.2.2.1 ≤ v0_3 ∧ r.2.2.2.2.2.1 ≤ r.1 + 4 ∧ r.2.2.2.2.2.1 ≤ v1_2 + 4 ∧ r.2.2.2.2.2.2.1 ≤ r.2.2.2.2.1 ∧ r.2.2.2.2.2.2.2.2.1 ≤ r.1 + 11 ∧ r.2.2.2.2.2.2.2.2.1 ≤ r.2.2.2.2.2.1 + 11 ∧ r.2.2.2.2.2.2.2.2.2 ≤ 999 ∧ r.2.2.2.2.2.2.2.2.2 ≤ r.2.1 ∧ v0_2 ≤ r.2.2.1 ∧ v0_3 ≤ r.2.2.2.1 ∧ v1_3 ≤ r.2.2.2.2.2.2.1 ∧ v1_4 ≤ r.1 + 4 ∧ v1_7 ≤ r.1 + 11) ∧ (r.1 = 1 → 0 ≤ r.2.1 ∧ 0 ≤ r.2.2.2.2.2.2.2.2.2 ∧ r.1 ≤ r.2.1 + 1 ∧ r.1 ≤ r.2.2.2.2.2.2.2.2.2 + 1 ∧ r.2.1 ≤ 999 ∧ r.2.1 ≤ r.2.2.2.2.2.2.2.2.2 ∧ r.2.2.1 ≤ v0_2 ∧ r.2.2.2.1 ≤ v0_3 ∧ r.2.2.2.2.2.1 ≤ r.1 + 4 ∧ r.2.2.2.2.2.1 ≤ v1_2 + 4 ∧ r.2.2.2.2.2.2.1 ≤ r.2.2.2.2.1 ∧ r.2.2.2.2.2.2.2.2.1 ≤ r.1 + 11 ∧ r.2.2.2.2.2.2.2.2.1 ≤ r.2.2.2.2.2.1 + 11 ∧ r.2.2.2.2.2.2.2.2.2 ≤ 999 ∧ r.2.2.2.2.2.2.2.2.2 ≤ r.2.1 ∧ v0_2 ≤ r.2.2.1 ∧ v0_3 ≤ r.2.2.2.1 ∧ v1_3 ≤ r.2.2.2.2.2.2.1 ∧ v1_4 ≤ r.1 + 4 ∧ v1_7 ≤ r.1 + 11) ∧ (¬ r.1 = 1 → 1 ≤ r.2.2.1 ∧ 0 ≤ r.2.2.2.1 ∧ r.1 ≤ 0 ∧ r.1 < r.2.2.1 ∧ r.1 ≤ r.2.2.2.1 ∧ r.1 ≤ r.2.2.2.2.2.2.1 ∧ r.1 ≤ r.2.2.2.2.2.2.2.2.1 + 1 ∧ r.1 ≤ v1_2 ∧ r.1 ≤ v1_3 ∧ r.1 ≤ v1_4 ∧ r.1 ≤ v1_5 ∧ r.1 ≤ v1_7 + 1 ∧ r.2.1 ≤ v0_1 ∧ r.2.2.1 ≤ 2 ∧ r.2.2.1 ≤ r.1 + 2 ∧ r.2.2.1 ≤ r.2.2.2.2.2.1 + 1 ∧ r.2.2.2.1 ≤ 1200 ∧ r.2.2.2.2.2.1 ≤ v1_4 + 4 ∧ r.2.2.2.2.2.2.2.2.2 ≤ v4_5 ∧ v0_1 ≤ r.2.1 ∧ v4_5 ≤ r.2.2.2.2.2.2.2.2.2)) := by
  unfold fn_X5_readCast
  refine zw_zb0 (sf_X5_readValue 0 0 999 v0_1 v0_2 v0_3 v1_2 v1_3 v1_4 v1_5 v1_6 v1_7 f2 f3 (by grind [zu_at, zu_atL]) (by grind [zu_at, zu_atL]) (by grind [zu_at, zu_atL]) (by grind [zu_at, zu_atL]) (by grind [zu_at, zu_atL]) (by grind [zu_at, zu_atL])) (fun o_1 ho_1 => ?_)
  refine zw_if (fun c1 => ?_) (fun c1 => ?_)
  · refine zw_some ?_
    first | trivial | (try dsimp only); grind [zu_at, zu_atL]
  refine zw_some ?_
  first | trivial | (try dsimp only); grind [zu_at, zu_atL]
set_option maxHeartbeats 1000000 in
theorem sf_X5_readBox (v0_1 : Int32) (v0_2 : Int32) (v0_3 : Int32) (v1_2 : Int32) (v1_3 : Int32) (v1_4 : Int32) (v1_5 : Int32) (v1_6 : Int32) (v1_7 : Int32) (v2_0 : Int32) (f3 : Nat → Int32) (v4_0 : Int32) (v4_1 : Int32) (f5 : Nat → Int32) (f6 : Nat → Int32) (f7 : Nat → Int32) (f8 : Nat → Int32) (f9 : Nat → Int32) (f10 : Nat → Int32) (f11 : Nat → Int32) (f12 : Nat → Int32) (f13 : Nat → Int32) (f14 : Nat → Int32) (h_v1_2 : 0 ≤ v1_2 ∧ v1_2 ≤ 1200) (h_v1_3 : 0 ≤ v1_3 ∧ v1_3 ≤ 1200) (h_v1_4 : 0 ≤ v1_4 ∧ v1_4 ≤ 5) (h_v1_5 : 0 ≤ v1_5 ∧ v1_5 ≤ 1200) (h_v1_7 : (-1) ≤ v1_7 ∧ v1_7 ≤ 12) (h_v2_0 : 0 ≤ v2_0 ∧ v2_0 ≤ 4) (h_v4_0 : 0 ≤ v4_0 ∧ v4_0 ≤ 14) : zw (fn_X5_readBox v0_1 v0_2 v0_3 v1_2 v1_3 v1_4 v1_5 v1_6 v1_7 v2_0 f3 v4_0 v4_1 f5 f6 f7 f8 f9 f10 f11 f12 f13 f14) (fun r => 0 ≤ r.1 ∧ r.1 ≤ 1 ∧ 0 ≤ r.2.2.2.2.1 ∧ r.2.2.2.2.1 ≤ 1200 ∧ 0 ≤ r.2.2.2.2.2.1 ∧ r.2.2.2.2.2.1 ≤ 5 ∧ 0 ≤ r.2.2.2.2.2.2.1 ∧ r.2.2.2.2.2.2.1 ≤ 1200 ∧ (-1) ≤ r.2.2.2.2.2.2.2.2.1 ∧ r.2.2.2.2.2.2.2.2.1 ≤ 12 ∧ 0 ≤ r.2.2.2.2.2.2.2.2.2.1 ∧ r.2.2.2.2.2.2.2.2.2.1 ≤ 14 ∧ r.1 ≤ r.2.2.2.2.2.2.2.2.2.1 ∧ r.1 ≤ v1_4 ∧ r.2.2.2.2.2.1 ≤ v1_4 + 4 ∧ r.2.2.2.2.2.2.2.2.2.1 ≤ v4_0 + 1 ∧ v1_3 ≤ r.2.2.2.2.1 ∧ v1_4 ≤ r.2.2.2.2.2.1 + 1 ∧ v1_7 ≤ r.2.2.2.2.2.2.2.2.1 ∧ v4_0 ≤ r.2.2.2.2.2.2.2.2.2.1 ∧ (r.1 = 0 → 1 ≤ r.2.2.1 ∧ 0 ≤ r.2.2.2.1 ∧ r.1 < r.2.2.1 ∧ r.1 ≤ r.2.2.2.1 ∧ r.1 ≤ r.2.2.2.2.2.1 ∧ r.1 ≤ r.2.2.2.2.2.2.1 ∧ r.1 ≤ v1_2 ∧ r.1 ≤ v1_3 ∧ r.1 ≤ v1_5 ∧ r.1 ≤ v1_7 + 1 ∧ r.1 ≤ v2_0 ∧ r.1 ≤ v4_0 ∧ r.2.2.2.2.2.2.2.2.2.2.1 ≤ v4_1 ∧ r.2.2.1 ≤ 3 ∧ r.2.2.1 ≤ r.1 + 3 ∧ r.2.2.1 ≤ r.2.2.2.2.2.1 + 2 ∧ r.2.2.1 ≤ v1_4 + 2 ∧ r.2.2.2.1 ≤ 1200 ∧ r.2.2.2.2.2.2.2.2.2.1 ≤ v4_0 ∧ v4_1 ≤ r.2.2.2.2.2.2.2.2.2.2.1) ∧ (¬ r.1 = 0 → 1 ≤ r.1 ∧ (-10000000) ≤ r.2.1 ∧ 1 ≤ r.2.2.2.2.2.2.2.2.2.1 ∧ 1 ≤ v1_4 ∧ r.2.1 ≤ 10000000 ∧ r.2.2.1 ≤ v0_2 ∧ r.2.2.2.1 ≤ v0_3 ∧ r.2.2.2.2.2.1 ≤ r.1 + 4 ∧ r.2.2.2.2.2.1 ≤ v1_2 + 4 ∧ r.2.2.2.2.2.2.1 ≤ r.2.2.2.2.1 ∧ r.2.2.2.2.2.2.2.2.1 ≤ r.1 + 11 ∧ r.2.2.2.2.2.2.2.2.1 ≤ r.2.2.2.2.2.1 + 11 ∧ r.2.2.2.2.2.2.2.2.1 ≤ v1_4 + 11 ∧ r.2.2.2.2.2.2.2.2.2.1 ≤ r.1 + 13 ∧ r.2.2.2.2.2.2.2.2.2.1 ≤ v1_4 + 13 ∧ v0_2 ≤ r.2.2.1 ∧ v0_3 ≤ r.2.2.2.1 ∧ v1_3 ≤ r.2.2.2.2.2.2.1 ∧ v1_4 ≤ 1 ∧ v1_4 ≤ r.1 ∧ v1_4 ≤ r.2.2.2.2.2.2.2.2.1 + 2 ∧ v1_4 ≤ r.2.2.2.2.2.2.2.2.2.1 ∧ v1_4 ≤ v1_2 + 1 ∧ v1_4 ≤ v1_3 + 1 ∧ v1_4 ≤ v1_5 + 1 ∧ v1_4 ≤ v1_7 + 2 ∧ v1_4 ≤ v2_0 + 1 ∧ v1_7 ≤ (-1) ∧ v1_7 + 2 ≤ r.1 ∧ v1_7 < r.2.2.2.2.2.1 ∧ v1_7 + 2 ≤ r.2.2.2.2.2.2.2.2.2.1 ∧ v1_7 < v1_2 ∧ v1_7 < v1_3 ∧ v1_7 + 2 ≤ v1_4 ∧ v1_7 < v1_5 ∧ v1_7 < v2_0 ∧ v2_0 ≤ r.1 + 3 ∧ v2_0 ≤ v1_4 + 3) ∧ (r.1 = 1 → (-10000000) ≤ r.2.1 ∧ 1 ≤ r.2.2.2.2.2.2.2.2.2.1 ∧ 1 ≤ v1_4 ∧ r.2.1 ≤ 10000000 ∧ r.2.2.1 ≤ v0_2 ∧ r.2.2.2.1 ≤ v0_3 ∧ r.2.2.2.2.2.1 ≤ r.1 + 4 ∧ r.2.2.2.2.2.1 ≤ v1_2 + 4 ∧ r.2.2.2.2.2.2.1 ≤ r.2.2.2.2.1 ∧ r.2.2.2.2.2.2.2.2.1 ≤ r.1 + 11 ∧ r.2.2.2.2.2.2.2.2.1 ≤ r.2.2.2.2.2.1 + 11 ∧ r.2.2.2.2.2.2.2.2.1 ≤ v1_4 + 11 ∧ r.2.2.2.2.2.2.2.2.2.1 ≤ r.1 + 13 ∧ r.2.2.2.2.2.2.2.2.2.1 ≤ v1_4 + 13 ∧ v0_2 ≤ r.2.2.1 ∧ v0_3 ≤ r.2.2.2.1 ∧ v1_3 ≤ r.2.2.2.2.2.2.1 ∧ v1_4 ≤ 1 ∧ v1_4 ≤ r.1 ∧ v1_4 ≤ r.2.2.2.2.2.2.2.2.1 + 2 ∧ v1_4 ≤ r.2.2.2.2.2.2.2.2.2.1 ∧ v1_4 ≤ v1_2 + 1 ∧ v1_4 ≤ v1_3 + 1 ∧ v1_4 ≤ v1_5 + 1 ∧ v1_4 ≤ v1_7 + 2 ∧ v1_4 ≤ v2_0 + 1 ∧ v1_7 ≤ (-1) ∧ v1_7 + 2 ≤ r.1 ∧ v1_7 < r.2.2.2.2.2.1 ∧ v1_7 + 2 ≤ r.2.2.2.2.2.2.2.2.2.1 ∧ v1_7 < v1_2 ∧ v1_7 < v1_3 ∧ v1_7 + 2 ≤ v1_4 ∧ v1_7 < v1_5 ∧ v1_7 < v2_0 ∧ v2_0 ≤ r.1 + 3 ∧ v2_0 ≤ v1_4 + 3) ∧ (¬ r.1 = 1 → 1 ≤ r.2.2.1 ∧ 0 ≤ r.2.2.2.1 ∧ r.1 ≤ 0 ∧ r.1 < r.2.2.1 ∧ r.1 ≤ r.2.2.2.1 ∧ r.1 ≤ r.2.2.2.2.2.1 ∧ r.1 ≤ r.2.2.2.2.2.2.1 ∧ r.1 ≤ v1_2 ∧ r.1 ≤ v1_3 ∧ r.1 ≤ v1_5 ∧ r.1 ≤ v1_7 + 1 ∧ r.1 ≤ v2_0 ∧ r.1 ≤ v4_0 ∧ r.2.2.2.2.2.2.2.2.2.2.1 ≤ v4_1 ∧ r.2.2.1 ≤ 3 ∧ r.2.2.1 ≤ r.1 + 3 ∧ r.2.2.1 ≤ r.2.2.2.2.2.1 + 2 ∧ r.2.2.1 ≤ v1_4 + 2 ∧ r.2.2.2.1 ≤ 1200 ∧ r.2.2.2.2.2.2.2.2.2.1 ≤ v4_0 ∧ v4_1 ≤ r.2.2.2.2.2.2.2.2.2.2.1)) := by
  unfold fn_X5_readBox
  refine zw_zb0 (sf_X5_readNewName v0_1 v0_2 v0_3 v1_2 v1_3 v1_4 v1_5 v1_6 v1_7 v2_0 f3 v4_0 f5 f6 f7 (by grind [zu_at, zu_atL]) (by grind [zu_at, zu_atL]) (by grind [zu_at, zu_atL]) (by grind [zu_at, zu_atL]) (by grind [zu_at, zu_atL]) (by grind [zu_at, zu_atL]) (by grind [zu_at, zu_atL])) (fun o_1 ho_1 => ?_)
  refine zw_if (fun c1 => ?_) (fun c1 => ?_)
  · refine zw_some ?_
    first | trivial | (try dsimp only); grind [zu_at, zu_atL]
  refine zw_zb0 (sf_X5_readValue 1 (-10000000) 10000000 o_1.2.1 o_1.2.2.1 o_1.2.2.2.1 v1_2 o_1.2.2.2.2.1 o_1.2.2.2.2.2.1 o_1.2.2.2.2.2.2.1 o_1.2.2.2.2.2.2.2.1 o_1.2.2.2.2.2.2.2.2 f6 f7 (by grind [zu_at, zu_atL]) (by grind [zu_at, zu_atL]) (by grind [zu_at, zu_atL]) (by grind [zu_at, zu_atL]) (by grind [zu_at, zu_atL]) (by grind [zu_at, zu_atL])) (fun o_6 ho_6 => ?_)
  refine zw_if (fun c2 => ?_) (fun c2 => ?_)
  · refine zw_some ?_
    first | trivial | (try dsimp only); grind [zu_at, zu_atL]
  refine zw_zb0 (sf_X5_readValue 1 o_6.2.1 10000000 o_6.2.1 o_6.2.2.1 o_6.2.2.2.1 v1_2 o_6.2.2.2.2.1 o_6.2.2.2.2.2.1 o_6.2.2.2.2.2.2.1 o_6.2.2.2.2.2.2.2.1 o_6.2.2.2.2.2.2.2.2 f6 f7 (by grind [zu_at, zu_atL]) (by grind [zu_at, zu_atL]) (by grind [zu_at, zu_atL]) (by grind [zu_at, zu_atL]) (by grind [zu_at, zu_atL]) (by grind [zu_at, zu_atL])) (fun o_11 ho_11 => ?_)
  refine zw_if (fun c3 => ?_) (fun c3 => ?_)
  · refine zw_some ?_
    first | trivial | (try dsimp only); grind [zu_at, zu_atL]
  refine zw_zb0 (sf_X4_prepare 0 (-1) o_6.2.1 v4_0 f8 f9 (by grind [zu_at, zu_atL])) (fun o_16 ho_16 => ?_)
  refine zw_zb0 (sf_X4_prepare 1 (-1) o_11.2.1 v4_0 o_16.1 o_16.2 (by grind [zu_at, zu_atL])) (fun o_20 ho_20 => ?_)
  refine zw_zb0 (sf_X4_add o_1.2.1 0 v4_0 v4_1 f5 f10 f11 f12 f13 o_20.1 f14 (by grind [zu_at, zu_atL])) (fun o_24 ho_24 => ?_)
  refine zw_some ?_
  first | trivial | (try dsimp only); grind [zu_at, zu_atL]
set_option maxHeartbeats 1000000 in
theorem sf_X5_readSign (p1 : Int32) (v0_2 : Int32) (v0_3 : Int32) (v1_2 : Int32) (v1_3 : Int32) (v1_4 : Int32) (v1_5 : Int32) (v1_6 : Int32) (v1_7 : Int32) (f2 : Nat → Int32) (f3 : Nat → Int32) (h_v1_2 : 0 ≤ v1_2 ∧ v1_2 ≤ 1200) (h_v1_3 : 0 ≤ v1_3 ∧ v1_3 ≤ 1200) (h_v1_4 : 0 ≤ v1_4 ∧ v1_4 ≤ 5) (h_v1_5 : 0 ≤ v1_5 ∧ v1_5 ≤ 1200) (h_v1_7 : (-1) ≤ v1_7 ∧ v1_7 ≤ 12) : zw (fn_X5_readSign p1 v0_2 v0_3 v1_2 v1_3 v1_4 v1_5 v1_6 v1_7 f2 f3) (fun r => 0 ≤ r.1 ∧ r.1 ≤ 1 ∧ 0 ≤ r.2.2.2.1 ∧ r.2.2.2.1 ≤ 1200 ∧ 0 ≤ r.2.2.2.2.1 ∧ r.2.2.2.2.1 ≤ 5 ∧ 0 ≤ r.2.2.2.2.2.1 ∧ r.2.2.2.2.2.1 ≤ 1200 ∧ (-1) ≤ r.2.2.2.2.2.2.2 ∧ r.2.2.2.2.2.2.2 ≤ 12 ∧ r.1 ≤ v1_4 ∧ r.2.2.2.2.1 ≤ v1_4 + 2 ∧ v1_3 ≤ r.2.2.2.1 ∧ v1_4 ≤ r.2.2.2.2.1 + 3 ∧ (r.1 = 1 → 3 ≤ v1_4 ∧ p1 ≤ v1_6 ∧ r.1 + 2 ≤ v1_4 ∧ r.2.1 ≤ v0_2 ∧ r.2.2.1 ≤ v0_3 ∧ r.2.2.2.2.1 ≤ r.1 + 4 ∧ r.2.2.2.2.1 ≤ v1_2 + 4 ∧ r.2.2.2.2.2.1 ≤ r.2.2.2.1 ∧ r.2.2.2.2.2.2.2 ≤ r.1 + 11 ∧ r.2.2.2.2.2.2.2 ≤ r.2.2.2.2.1 + 11 ∧ r.2.2.2.2.2.2.2 ≤ v1_4 + 9 ∧ v0_2 ≤ r.2.1 ∧ v0_3 ≤ r.2.2.1 ∧ v1_3 ≤ r.2.2.2.2.2.1 ∧ v1_4 ≤ 3 ∧ v1_4 ≤ r.1 + 2 ∧ v1_4 ≤ r.2.2.2.2.2.2.2 + 4 ∧ v1_4 ≤ v1_2 + 3 ∧ v1_4 ≤ v1_3 + 3 ∧ v1_4 ≤ v1_5 + 3 ∧ v1_4 ≤ v1_7 + 4 ∧ v1_6 ≤ p1 ∧ v1_7 ≤ r.1 + 11 ∧ v1_7 ≤ v1_4 + 9) ∧ (¬ r.1 = 1 → 1 ≤ r.2.1 ∧ 0 ≤ r.2.2.1 ∧ r.1 ≤ 0 ∧ r.1 < r.2.1 ∧ r.1 ≤ r.2.2.1 ∧ r.1 ≤ r.2.2.2.1 ∧ r.1 ≤ r.2.2.2.2.1 ∧ r.1 ≤ r.2.2.2.2.2.1 ∧ r.1 ≤ r.2.2.2.2.2.2.2 + 1 ∧ r.1 ≤ v1_2 ∧ r.1 ≤ v1_3 ∧ r.1 ≤ v1_5 ∧ r.1 ≤ v1_7 + 1 ∧ r.2.1 ≤ 1 ∧ r.2.1 ≤ r.1 + 1 ∧ r.2.1 ≤ r.2.2.1 + 1 ∧ r.2.1 ≤ r.2.2.2.1 + 1 ∧ r.2.1 ≤ r.2.2.2.2.1 + 1 ∧ r.2.1 ≤ r.2.2.2.2.2.1 + 1 ∧ r.2.1 ≤ r.2.2.2.2.2.2.2 + 2 ∧ r.2.1 ≤ v1_2 + 1 ∧ r.2.1 ≤ v1_3 + 1 ∧ r.2.1 ≤ v1_4 + 1 ∧ r.2.1 ≤ v1_5 + 1 ∧ r.2.1 ≤ v1_7 + 2 ∧ r.2.2.1 ≤ 1200 ∧ r.2.2.1 ≤ r.2.2.2.2.2.1 ∧ r.2.2.1 ≤ v1_5 ∧ r.2.2.2.1 ≤ v1_3 ∧ r.2.2.2.2.1 ≤ r.2.1 + 4 ∧ r.2.2.2.2.1 ≤ v1_4 ∧ r.2.2.2.2.2.1 ≤ r.2.2.1 ∧ r.2.2.2.2.2.1 ≤ v1_5 ∧ r.2.2.2.2.2.2.1 ≤ v1_6 ∧ r.2.2.2.2.2.2.2 ≤ r.2.1 + 11 ∧ r.2.2.2.2.2.2.2 ≤ v1_7 ∧ v1_4 ≤ r.2.1 + 4 ∧ v1_4 ≤ r.2.2.2.2.1 ∧ v1_5 ≤ r.2.2.1 ∧ v1_5 ≤ r.2.2.2.2.2.1 ∧ v1_6 ≤ r.2.2.2.2.2.2.1 ∧ v1_7 ≤ r.2.1 + 11 ∧ v1_7 ≤ r.2.2.2.2.2.2.2) ∧ (r.1 = 0 → 1 ≤ r.2.1 ∧ 0 ≤ r.2.2.1 ∧ r.1 < r.2.1 ∧ r.1 ≤ r.2.2.1 ∧ r.1 ≤ r.2.2.2.1 ∧ r.1 ≤ r.2.2.2.2.1 ∧ r.1 ≤ r.2.2.2.2.2.1 ∧ r.1 ≤ r.2.2.2.2.2.2.2 + 1 ∧ r.1 ≤ v1_2 ∧ r.1 ≤ v1_3 ∧ r.1 ≤ v1_5 ∧ r.1 ≤ v1_7 + 1 ∧ r.2.1 ≤ 1 ∧ r.2.1 ≤ r.1 + 1 ∧ r.2.1 ≤ r.2.2.1 + 1 ∧ r.2.1 ≤ r.2.2.2.1 + 1 ∧ r.2.1 ≤ r.2.2.2.2.1 + 1 ∧ r.2.1 ≤ r.2.2.2.2.2.1 + 1 ∧ r.2.1 ≤ r.2.2.2.2.2.2.2 + 2 ∧ r.2.1 ≤ v1_2 + 1 ∧ r.2.1 ≤ v1_3 + 1 ∧ r.2.1 ≤ v1_4 + 1 ∧ r.2.1 ≤ v1_5 + 1 ∧ r.2.1 ≤ v1_7 + 2 ∧ r.2.2.1 ≤ 1200 ∧ r.2.2.1 ≤ r.2.2.2.2.2.1 ∧ r.2.2.1 ≤ v1_5 ∧ r.2.2.2.1 ≤ v1_3 ∧ r.2.2.2.2.1 ≤ r.2.1 + 4 ∧ r.2.2.2.2.1 ≤ v1_4 ∧ r.2.2.2.2.2.1 ≤ r.2.2.1 ∧ r.2.2.2.2.2.1 ≤ v1_5 ∧ r.2.2.2.2.2.2.1 ≤ v1_6 ∧ r.2.2.2.2.2.2.2 ≤ r.2.1 + 11 ∧ r.2.2.2.2.2.2.2 ≤ v1_7 ∧ v1_4 ≤ r.2.1 + 4 ∧ v1_4 ≤ r.2.2.2.2.1 ∧ v1_5 ≤ r.2.2.1 ∧ v1_5 ≤ r.2.2.2.2.2.1 ∧ v1_6 ≤ r.2.2.2.2.2.2.1 ∧ v1_7 ≤ r.2.1 + 11 ∧ v1_7 ≤ r.2.2.2.2.2.2.2) ∧ (¬ r.1 = 0 → 1 ≤ r.1 ∧ 3 ≤ v1_4 ∧ p1 ≤ v1_6 ∧ r.1 + 2 ≤ v1_4 ∧ r.2.1 ≤ v0_2 ∧ r.2.2.1 ≤ v0_3 ∧ r.2.2.2.2.1 ≤ r.1 + 4 ∧ r.2.2.2.2.1 ≤ v1_2 + 4 ∧ r.2.2.2.2.2.1 ≤ r.2.2.2.1 ∧ r.2.2.2.2.2.2.2 ≤ r.1 + 11 ∧ r.2.2.2.2.2.2.2 ≤ r.2.2.2.2.1 + 11 ∧ r.2.2.2.2.2.2.2 ≤ v1_4 + 9 ∧ v0_2 ≤ r.2.1 ∧ v0_3 ≤ r.2.2.1 ∧ v1_3 ≤ r.2.2.2.2.2.1 ∧ v1_4 ≤ 3 ∧ v1_4 ≤ r.1 + 2 ∧ v1_4 ≤ r.2.2.2.2.2.2.2 + 4 ∧ v1_4 ≤ v1_2 + 3 ∧ v1_4 ≤ v1_3 + 3 ∧ v1_4 ≤ v1_5 + 3 ∧ v1_4 ≤ v1_7 + 4 ∧ v1_6 ≤ p1 ∧ v1_7 ≤ r.1 + 11 ∧ v1_7 ≤ v1_4 + 9)) := by
  unfold fn_X5_readSign
  refine zw_zb0 (sf_X10_isSign p1 v1_4 v1_6 (by grind [zu_at, zu_atL])) (fun o_1 ho_1 => ?_)
  refine zw_if (fun c1 => ?_) (fun c1 => ?_)
  · refine zw_zb0 (sf_X5_stopAt 1 v1_5) (fun o_10 ho_10 => ?_)
    refine zw_some ?_
    first | trivial | (try dsimp only); grind [zu_at, zu_atL]
  refine zw_zb0 (sf_X10_advance v1_2 v1_3 v1_4 f2 f3 (by grind [zu_at, zu_atL]) (by grind [zu_at, zu_atL]) (by grind [zu_at, zu_atL])) (fun o_6 ho_6 => ?_)
  refine zw_some ?_
  first | trivial | (try dsimp only); grind [zu_at, zu_atL]
set_option maxHeartbeats 1000000 in
theorem sf_X5_readWhat (p2 : Int32) (v0_1 : Int32) (v0_2 : Int32) (v0_3 : Int32) (v1_2 : Int32) (v1_3 : Int32) (v1_4 : Int32) (v1_5 : Int32) (v1_6 : Int32) (v1_7 : Int32) (f2 : Nat → Int32) (f3 : Nat → Int32) (v5_0 : Int32) (f6 : Nat → Int32) (f7 : Nat → Int32) (f8 : Nat → Int32) (h_v1_2 : 0 ≤ v1_2 ∧ v1_2 ≤ 1200) (h_v1_3 : 0 ≤ v1_3 ∧ v1_3 ≤ 1200) (h_v1_4 : 0 ≤ v1_4 ∧ v1_4 ≤ 5) (h_v1_5 : 0 ≤ v1_5 ∧ v1_5 ≤ 1200) (h_v1_7 : (-1) ≤ v1_7 ∧ v1_7 ≤ 12) (h_v5_0 : 0 ≤ v5_0 ∧ v5_0 ≤ 14) : zw (fn_X5_readWhat p2 v0_1 v0_2 v0_3 v1_2 v1_3 v1_4 v1_5 v1_6 v1_7 f2 f3 v5_0 f6 f7 f8) (fun r => 0 ≤ r.1 ∧ r.1 ≤ 1 ∧ 0 ≤ r.2.2.2.2.1 ∧ r.2.2.2.2.1 ≤ 1200 ∧ 0 ≤ r.2.2.2.2.2.1 ∧ r.2.2.2.2.2.1 ≤ 5 ∧ 0 ≤ r.2.2.2.2.2.2.1 ∧ r.2.2.2.2.2.2.1 ≤ 1200 ∧ (-1) ≤ r.2.2.2.2.2.2.2.2.1 ∧ r.2.2.2.2.2.2.2.2.1 ≤ 12 ∧ v1_3 ≤ r.2.2.2.2.1 ∧ (r.1 = 0 → 1 ≤ r.2.2.1 ∧ 0 ≤ r.2.2.2.1 ∧ r.1 < r.2.2.1 ∧ r.1 ≤ r.2.2.2.1 ∧ r.1 ≤ r.2.2.2.2.2.1 ∧ r.1 ≤ r.2.2.2.2.2.2.1 ∧ r.1 ≤ r.2.2.2.2.2.2.2.2.1 + 1 ∧ r.1 ≤ v1_2 ∧ r.1 ≤ v1_3 ∧ r.1 ≤ v1_4 ∧ r.1 ≤ v1_5 ∧ r.1 ≤ v1_7 + 1 ∧ r.1 ≤ v5_0 ∧ r.2.1 ≤ v0_1 ∧ r.2.2.1 ≤ 3 ∧ r.2.2.1 ≤ r.1 + 3 ∧ r.2.2.1 ≤ r.2.2.2.2.2.1 + 2 ∧ r.2.2.1 ≤ v1_4 + 2 ∧ r.2.2.2.1 ≤ 1200 ∧ r.2.2.2.2.2.1 ≤ v1_4 + 4 ∧ v0_1 ≤ r.2.1) ∧ (¬ r.1 = 0 → 1 ≤ r.1 ∧ (-1000000) ≤ r.2.1 ∧ r.2.1 ≤ 1000000 ∧ r.2.2.1 ≤ v0_2 ∧ r.2.2.2.1 ≤ v0_3 ∧ r.2.2.2.2.2.1 ≤ r.1 + 4 ∧ r.2.2.2.2.2.1 ≤ v1_2 + 4 ∧ r.2.2.2.2.2.2.1 ≤ r.2.2.2.2.1 ∧ r.2.2.2.2.2.2.2.2.1 ≤ r.1 + 11 ∧ r.2.2.2.2.2.2.2.2.1 ≤ r.2.2.2.2.2.1 + 11 ∧ v0_2 ≤ r.2.2.1 ∧ v0_3 ≤ r.2.2.2.1 ∧ v1_3 ≤ r.2.2.2.2.2.2.1 ∧ v1_4 ≤ r.1 + 4 ∧ v1_7 ≤ r.1 + 11 ∧ v5_0 ≤ r.1 + 13) ∧ (r.1 = 1 → (-1000000) ≤ r.2.1 ∧ r.2.1 ≤ 1000000 ∧ r.2.2.1 ≤ v0_2 ∧ r.2.2.2.1 ≤ v0_3 ∧ r.2.2.2.2.2.1 ≤ r.1 + 4 ∧ r.2.2.2.2.2.1 ≤ v1_2 + 4 ∧ r.2.2.2.2.2.2.1 ≤ r.2.2.2.2.1 ∧ r.2.2.2.2.2.2.2.2.1 ≤ r.1 + 11 ∧ r.2.2.2.2.2.2.2.2.1 ≤ r.2.2.2.2.2.1 + 11 ∧ v0_2 ≤ r.2.2.1 ∧ v0_3 ≤ r.2.2.2.1 ∧ v1_3 ≤ r.2.2.2.2.2.2.1 ∧ v1_4 ≤ r.1 + 4 ∧ v1_7 ≤ r.1 + 11 ∧ v5_0 ≤ r.1 + 13) ∧ (¬ r.1 = 1 → 1 ≤ r.2.2.1 ∧ 0 ≤ r.2.2.2.1 ∧ r.1 ≤ 0 ∧ r.1 < r.2.2.1 ∧ r.1 ≤ r.2.2.2.1 ∧ r.1 ≤ r.2.2.2.2.2.1 ∧ r.1 ≤ r.2.2.2.2.2.2.1 ∧ r.1 ≤ r.2.2.2.2.2.2.2.2.1 + 1 ∧ r.1 ≤ v1_2 ∧ r.1 ≤ v1_3 ∧ r.1 ≤ v1_4 ∧ r.1 ≤ v1_5 ∧ r.1 ≤ v1_7 + 1 ∧ r.1 ≤ v5_0 ∧ r.2.1 ≤ v0_1 ∧ r.2.2.1 ≤ 3 ∧ r.2.2.1 ≤ r.1 + 3 ∧ r.2.2.1 ≤ r.2.2.2.2.2.1 + 2 ∧ r.2.2.1 ≤ v1_4 + 2 ∧ r.2.2.2.1 ≤ 1200 ∧ r.2.2.2.2.2.1 ≤ v1_4 + 4 ∧ v0_1 ≤ r.2.1)) := by
  unfold fn_X5_readWhat
  refine zw_if (fun c1 => ?_) (fun c1 => ?_)
  · refine zw_zb0 (sf_X4_find v1_6 v5_0 f8 (by grind [zu_at, zu_atL])) (fun o_15 ho_15 => ?_)
    refine zw_zb0 (sf_X5_readKnown o_15 v0_1 v0_2 v0_3 v1_2 v1_3 v1_4 v1_5 v1_6 v1_7 f2 f3 (by grind [zu_at, zu_atL]) (by grind [zu_at, zu_atL]) (by grind [zu_at, zu_atL]) (by grind [zu_at, zu_atL]) (by grind [zu_at, zu_atL])) (fun o_19 ho_19 => ?_)
    refine zw_if (fun c2 => ?_) (fun c2 => ?_)
    · refine zw_zb0 (sf_X4_prepare p2 (-1) 0 v5_0 f6 f7 (by grind [zu_at, zu_atL])) (fun o_24 ho_24 => ?_)
      refine zw_some ?_
      first | trivial | (try dsimp only); grind [zu_at, zu_atL]
    refine zw_zb0 (sf_X4_prepare p2 o_19.2.1 0 v5_0 f6 f7 (by grind [zu_at, zu_atL])) (fun o_28 ho_28 => ?_)
    refine zw_some ?_
    first | trivial | (try dsimp only); grind [zu_at, zu_atL]
  refine zw_zb0 (sf_X5_readValue 1 (-1000000) 1000000 v0_1 v0_2 v0_3 v1_2 v1_3 v1_4 v1_5 v1_6 v1_7 f2 f3 (by grind [zu_at, zu_atL]) (by grind [zu_at, zu_atL]) (by grind [zu_at, zu_atL]) (by grind [zu_at, zu_atL]) (by grind [zu_at, zu_atL]) (by grind [zu_at, zu_atL])) (fun o_2 ho_2 => ?_)
  refine zw_if (fun c3 => ?_) (fun c3 => ?_)
  · refine zw_zb0 (sf_X4_prepare p2 (-1) 0 v5_0 f6 f7 (by grind [zu_at, zu_atL])) (fun o_7 ho_7 => ?_)
    refine zw_some ?_
    first | trivial | (try dsimp only); grind [zu_at, zu_atL]
  refine zw_zb0 (sf_X4_prepare p2 (-1) o_2.2.1 v5_0 f6 f7 (by grind [zu_at, zu_atL])) (fun o_11 ho_11 => ?_)
  refine zw_some ?_
  first | trivial | (try dsimp only); grind [zu_at, zu_atL]
set_option maxHeartbeats 1000000 in
theorem sf_X5_readOp (v0_1 : Int32) (v0_2 : Int32) (v0_3 : Int32) (v1_2 : Int32) (v1_3 : Int32) (v1_4 : Int32) (v1_5 : Int32) (v1_6 : Int32) (v1_7 : Int32) (f2 : Nat → Int32) (f3 : Nat → Int32) (h_v1_2 : 0 ≤ v1_2 ∧ v1_2 ≤ 1200) (h_v1_3 : 0 ≤ v1_3 ∧ v1_3 ≤ 1200) (h_v1_4 : 0 ≤ v1_4 ∧ v1_4 ≤ 5) (h_v1_5 : 0 ≤ v1_5 ∧ v1_5 ≤ 1200) (h_v1_7 : (-1) ≤ v1_7 ∧ v1_7 ≤ 12) : zw (fn_X5_readOp v0_1 v0_2 v0_3 v1_2 v1_3 v1_4 v1_5 v1_6 v1_7 f2 f3) (fun r => 0 ≤ r.1 ∧ r.1 ≤ 1 ∧ 0 ≤ r.2.2.2.2.1 ∧ r.2.2.2.2.1 ≤ 1200 ∧ 0 ≤ r.2.2.2.2.2.1 ∧ r.2.2.2.2.2.1 ≤ 5 ∧ 0 ≤ r.2.2.2.2.2.2.1 ∧ r.2.2.2.2.2.2.1 ≤ 1200 ∧ (-1) ≤ r.2.2.2.2.2.2.2.2 ∧ r.2.2.2.2.2.2.2.2 ≤ 12 ∧ r.1 ≤ v1_4 ∧ r.2.2.2.2.2.1 ≤ v1_4 + 4 ∧ v1_3 ≤ r.2.2.2.2.1 ∧ v1_4 ≤ r.2.2.2.2.2.1 + 3 ∧ (r.1 = 1 → 1 ≤ r.2.1 ∧ 1 ≤ v1_4 ∧ r.1 ≤ r.2.1 ∧ r.2.1 ≤ 5 ∧ r.2.1 ≤ r.1 + 4 ∧ r.2.1 ≤ v1_7 + 4 ∧ r.2.2.1 ≤ v0_2 ∧ r.2.2.2.1 ≤ v0_3 ∧ r.2.2.2.2.2.1 ≤ r.1 + 4 ∧ r.2.2.2.2.2.1 ≤ v1_2 + 4 ∧ r.2.2.2.2.2.2.1 ≤ r.2.2.2.2.1 ∧ r.2.2.2.2.2.2.2.2 ≤ r.1 + 11 ∧ r.2.2.2.2.2.2.2.2 ≤ r.2.2.2.2.2.1 + 11 ∧ v0_2 ≤ r.2.2.1 ∧ v0_3 ≤ r.2.2.2.1 ∧ v1_3 ≤ r.2.2.2.2.2.2.1 ∧ v1_4 ≤ 3 ∧ v1_4 ≤ r.1 + 2 ∧ v1_7 ≤ v1_4 + 9) ∧ (¬ r.1 = 1 → 1 ≤ r.2.2.1 ∧ 0 ≤ r.2.2.2.1 ∧ r.1 ≤ 0 ∧ r.1 < r.2.2.1 ∧ r.1 ≤ r.2.2.2.1 ∧ r.1 ≤ r.2.2.2.2.1 ∧ r.1 ≤ r.2.2.2.2.2.1 ∧ r.1 ≤ r.2.2.2.2.2.2.1 ∧ r.1 ≤ r.2.2.2.2.2.2.2.2 + 1 ∧ r.1 ≤ v1_2 ∧ r.1 ≤ v1_3 ∧ r.1 ≤ v1_5 ∧ r.1 ≤ v1_7 + 1 ∧ r.2.1 ≤ v0_1 ∧ r.2.2.1 ≤ 1 ∧ r.2.2.1 ≤ r.1 + 1 ∧ r.2.2.1 ≤ r.2.2.2.1 + 1 ∧ r.2.2.1 ≤ r.2.2.2.2.1 + 1 ∧ r.2.2.1 ≤ r.2.2.2.2.2.1 + 1 ∧ r.2.2.1 ≤ r.2.2.2.2.2.2.1 + 1 ∧ r.2.2.1 ≤ r.2.2.2.2.2.2.2.2 + 2 ∧ r.2.2.1 ≤ v1_2 + 1 ∧ r.2.2.1 ≤ v1_3 + 1 ∧ r.2.2.1 ≤ v1_4 + 1 ∧ r.2.2.1 ≤ v1_5 + 1 ∧ r.2.2.1 ≤ v1_7 + 2 ∧ r.2.2.2.1 ≤ 1200 ∧ r.2.2.2.1 ≤ r.2.2.2.2.2.2.1 ∧ r.2.2.2.1 ≤ v1_5 ∧ r.2.2.2.2.1 ≤ v1_3 ∧ r.2.2.2.2.2.1 ≤ r.2.2.1 + 4 ∧ r.2.2.2.2.2.1 ≤ v1_4 ∧ r.2.2.2.2.2.2.1 ≤ r.2.2.2.1 ∧ r.2.2.2.2.2.2.1 ≤ v1_5 ∧ r.2.2.2.2.2.2.2.1 ≤ v1_6 ∧ r.2.2.2.2.2.2.2.2 ≤ r.2.2.1 + 11 ∧ r.2.2.2.2.2.2.2.2 ≤ v1_7 ∧ v0_1 ≤ r.2.1 ∧ v1_4 ≤ r.2.2.1 + 4 ∧ v1_4 ≤ r.2.2.2.2.2.1 ∧ v1_5 ≤ r.2.2.2.1 ∧ v1_5 ≤ r.2.2.2.2.2.2.1 ∧ v1_6 ≤ r.2.2.2.2.2.2.2.1 ∧ v1_7 ≤ r.2.2.1 + 11 ∧ v1_7 ≤ r.2.2.2.2.2.2.2.2) ∧ (r.1 = 0 → 1 ≤ r.2.2.1 ∧ 0 ≤ r.2.2.2.1 ∧ r.1 < r.2.2.1 ∧ r.1 ≤ r.2.2.2.1 ∧ r.1 ≤ r.2.2.2.2.1 ∧ r.1 ≤ r.2.2.2.2.2.1 ∧ r.1 ≤ r.2.2.2.2.2.2.1 ∧ r.1 ≤ r.2.2.2.2.2.2.2.2 + 1 ∧ r.1 ≤ v1_2 ∧ r.1 ≤ v1_3 ∧ r.1 ≤ v1_5 ∧ r.1 ≤ v1_7 + 1 ∧ r.2.1 ≤ v0_1 ∧ r.2.2.1 ≤ 1 ∧ r.2.2.1 ≤ r.1 + 1 ∧ r.2.2.1 ≤ r.2.2.2.1 + 1 ∧ r.2.2.1 ≤ r.2.2.2.2.1 + 1 ∧ r.2.2.1 ≤ r.2.2.2.2.2.1 + 1 ∧ r.2.2.1 ≤ r.2.2.2.2.2.2.1 + 1 ∧ r.2.2.1 ≤ r.2.2.2.2.2.2.2.2 + 2 ∧ r.2.2.1 ≤ v1_2 + 1 ∧ r.2.2.1 ≤ v1_3 + 1 ∧ r.2.2.1 ≤ v1_4 + 1 ∧ r.2.2.1 ≤ v1_5 + 1 ∧ r.2.2.1 ≤ v1_7 + 2 ∧ r.2.2.2.1 ≤ 1200 ∧ r.2.2.2.1 ≤ r.2.2.2.2.2.2.1 ∧ r.2.2.2.1 ≤ v1_5 ∧ r.2.2.2.2.1 ≤ v1_3 ∧ r.2.2.2.2.2.1 ≤ r.2.2.1 + 4 ∧ r.2.2.2.2.2.1 ≤ v1_4 ∧ r.2.2.2.2.2.2.1 ≤ r.2.2.2.1 ∧ r.2.2.2.2.2.2.1 ≤ v1_5 ∧ r.2.2.2.2.2.2.2.1 ≤ v1_6 ∧ r.2.2.2.2.2.2.2.2 ≤ r.2.2.1 + 11 ∧ r.2.2.2.2.2.2.2.2 ≤ v1_7 ∧ v0_1 ≤ r.2.1 ∧ v1_4 ≤ r.2.2.1 + 4 ∧ v1_4 ≤ r.2.2.2.2.2.1 ∧ v1_5 ≤ r.2.2.2.1 ∧ v1_5 ≤ r.2.2.2.2.2.2.1 ∧ v1_6 ≤ r.2.2.2.2.2.2.2.1 ∧ v1_7 ≤ r.2.2.1 + 11 ∧ v1_7 ≤ r.2.2.2.2.2.2.2.2) ∧ (¬ r.1 = 0 → 1 ≤ r.1 ∧ 1 ≤ r.2.1 ∧ 1 ≤ v1_4 ∧ r.1 ≤ r.2.1 ∧ r.2.1 ≤ 5 ∧ r.2.1 ≤ r.1 + 4 ∧ r.2.1 ≤ v1_7 + 4 ∧ r.2.2.1 ≤ v0_2 ∧ r.2.2.2.1 ≤ v0_3 ∧ r.2.2.2.2.2.1 ≤ r.1 + 4 ∧ r.2.2.2.2.2.1 ≤ v1_2 + 4 ∧ r.2.2.2.2.2.2.1 ≤ r.2.2.2.2.1 ∧ r.2.2.2.2.2.2.2.2 ≤ r.1 + 11 ∧ r.2.2.2.2.2.2.2.2 ≤ r.2.2.2.2.2.1 + 11 ∧ v0_2 ≤ r.2.2.1 ∧ v0_3 ≤ r.2.2.2.1 ∧ v1_3 ≤ r.2.2.2.2.2.2.1 ∧ v1_4 ≤ 3 ∧ v1_4 ≤ r.1 + 2 ∧ v1_7 ≤ v1_4 + 9)) := by
  unfold fn_X5_readOp
  refine zw_zb0 (sf_X10_isSign 43 v1_4 v1_6 (by grind [zu_at, zu_atL])) (fun o_1 ho_1 => ?_)
  refine zw_if (fun c1 => ?_) (fun c1 => ?_)
  · refine zw_zb0 (sf_X10_isSign 45 v1_4 v1_6 (by grind [zu_at, zu_atL])) (fun o_6 ho_6 => ?_)
    refine zw_if (fun c2 => ?_) (fun c2 => ?_)
    · refine zw_zb0 (sf_X10_isSign 42 v1_4 v1_6 (by grind [zu_at, zu_atL])) (fun o_11 ho_11 => ?_)
      refine zw_if (fun c3 => ?_) (fun c3 => ?_)
      · refine zw_zb0 (sf_X10_isOwn 7 v1_4 v1_7 (by grind [zu_at, zu_atL]) (by grind [zu_at, zu_atL])) (fun o_16 ho_16 => ?_)
        refine zw_if (fun c4 => ?_) (fun c4 => ?_)
        · refine zw_zb0 (sf_X10_isOwn 8 v1_4 v1_7 (by grind [zu_at, zu_atL]) (by grind [zu_at, zu_atL])) (fun o_21 ho_21 => ?_)
          refine zw_if (fun c5 => ?_) (fun c5 => ?_)
          · refine zw_zb0 (sf_X5_stopAt 1 v1_5) (fun o_26 ho_26 => ?_)
            refine zw_some ?_
            first | trivial | (try dsimp only); grind [zu_at, zu_atL]
          refine zw_zb0 (sf_X10_advance v1_2 v1_3 v1_4 f2 f3 (by grind [zu_at, zu_atL]) (by grind [zu_at, zu_atL]) (by grind [zu_at, zu_atL])) (fun o_30 ho_30 => ?_)
          refine zw_some ?_
          first | trivial | (try dsimp only); grind [zu_at, zu_atL]
        refine zw_zb0 (sf_X10_advance v1_2 v1_3 v1_4 f2 f3 (by grind [zu_at, zu_atL]) (by grind [zu_at, zu_atL]) (by grind [zu_at, zu_atL])) (fun o_34 ho_34 => ?_)
        refine zw_some ?_
        first | trivial | (try dsimp only); grind [zu_at, zu_atL]
      refine zw_zb0 (sf_X10_advance v1_2 v1_3 v1_4 f2 f3 (by grind [zu_at, zu_atL]) (by grind [zu_at, zu_atL]) (by grind [zu_at, zu_atL])) (fun o_38 ho_38 => ?_)
      refine zw_some ?_
      first | trivial | (try dsimp only); grind [zu_at, zu_atL]
    refine zw_zb0 (sf_X10_advance v1_2 v1_3 v1_4 f2 f3 (by grind [zu_at, zu_atL]) (by grind [zu_at, zu_atL]) (by grind [zu_at, zu_atL])) (fun o_42 ho_42 => ?_)
    refine zw_some ?_
    first | trivial | (try dsimp only); grind [zu_at, zu_atL]
  refine zw_zb0 (sf_X10_advance v1_2 v1_3 v1_4 f2 f3 (by grind [zu_at, zu_atL]) (by grind [zu_at, zu_atL]) (by grind [zu_at, zu_atL])) (fun o_46 ho_46 => ?_)
  refine zw_some ?_
  first | trivial | (try dsimp only); grind [zu_at, zu_atL]
set_option maxHeartbeats 1000000 in
theorem sf_X5_readLet (v0_1 : Int32) (v0_2 : Int32) (v0_3 : Int32) (v1_2 : Int32) (v1_3 : Int32) (v1_4 : Int32) (v1_5 : Int32) (v1_6 : Int32) (v1_7 : Int32) (v2_0 : Int32) (f3 : Nat → Int32) (v4_0 : Int32) (v4_1 : Int32) (f5 : Nat → Int32) (f6 : Nat → Int32) (f7 : Nat → Int32) (f8 : Nat → Int32) (f9 : Nat → Int32) (f10 : Nat → Int32) (f11 : Nat → Int32) (f12 : Nat → Int32) (f13 : Nat → Int32) (f14 : Nat → Int32) (h_v1_2 : 0 ≤ v1_2 ∧ v1_2 ≤ 1200) (h_v1_3 : 0 ≤ v1_3 ∧ v1_3 ≤ 1200) (h_v1_4 : 0 ≤ v1_4 ∧ v1_4 ≤ 5) (h_v1_5 : 0 ≤ v1_5 ∧ v1_5 ≤ 1200) (h_v1_7 : (-1) ≤ v1_7 ∧ v1_7 ≤ 12) (h_v2_0 : 0 ≤ v2_0 ∧ v2_0 ≤ 4) (h_v4_0 : 0 ≤ v4_0 ∧ v4_0 ≤ 14) : zw (fn_X5_readLet v0_1 v0_2 v0_3 v1_2 v1_3 v1_4 v1_5 v1_6 v1_7 v2_0 f3 v4_0 v4_1 f5 f6 f7 f8 f9 f10 f11 f12 f13 f14) (fun r => 0 ≤ r.1 ∧ r.1 ≤ 1 ∧ 0 ≤ r.2.2.2.2.1 ∧ r.2.2.2.2.1 ≤ 1200 ∧ 0 ≤ r.2.2.2.2.2.1 ∧ r.2.2.2.2.2.1 ≤ 5 ∧ 0 ≤ r.2.2.2.2.2.2.1 ∧ r.2.2.2.2.2.2.1 ≤ 1200 ∧ (-1) ≤ r.2.2.2.2.2.2.2.2.1 ∧ r.2.2.2.2.2.2.2.2.1 ≤ 12 ∧ 0 ≤ r.2.2.2.2.2.2.2.2.2.1 ∧ r.2.2.2.2.2.2.2.2.2.1 ≤ 14 ∧ r.1 ≤ r.2.2.2.2.2.2.2.2.2.1 ∧ r.1 ≤ v1_4 ∧ r.2.2.2.2.2.1 ≤ v1_4 + 4 ∧ r.2.2.2.2.2.2.2.2.2.1 ≤ v4_0 + 1 ∧ v1_3 ≤ r.2.2.2.2.1 ∧ v1_4 ≤ r.2.2.2.2.2.1 + 1 ∧ v1_7 ≤ r.2.2.2.2.2.2.2.2.1 ∧ v4_0 ≤ r.2.2.2.2.2.2.2.2.2.1 ∧ (r.1 = 0 → 1 ≤ r.2.2.1 ∧ 0 ≤ r.2.2.2.1 ∧ r.1 < r.2.2.1 ∧ r.1 ≤ r.2.2.2.1 ∧ r.1 ≤ r.2.2.2.2.2.1 ∧ r.1 ≤ r.2.2.2.2.2.2.1 ∧ r.1 ≤ v1_2 ∧ r.1 ≤ v1_3 ∧ r.1 ≤ v1_5 ∧ r.1 ≤ v1_7 + 1 ∧ r.1 ≤ v2_0 ∧ r.1 ≤ v4_0 ∧ r.2.2.2.2.2.2.2.2.2.2.1 ≤ v4_1 ∧ r.2.2.1 ≤ 3 ∧ r.2.2.1 ≤ r.1 + 3 ∧ r.2.2.1 ≤ r.2.2.2.2.2.1 + 2 ∧ r.2.2.1 ≤ v1_4 + 2 ∧ r.2.2.2.1 ≤ 1200 ∧ r.2.2.2.2.2.2.2.2.2.1 ≤ v4_0 ∧ v4_1 ≤ r.2.2.2.2.2.2.2.2.2.2.1) ∧ (¬ r.1 = 0 → 1 ≤ r.1 ∧ (-1000000) ≤ r.2.1 ∧ 1 ≤ r.2.2.2.2.2.2.2.2.2.1 ∧ 1 ≤ v1_4 ∧ r.2.1 ≤ 1000000 ∧ r.2.2.1 ≤ v0_2 ∧ r.2.2.2.1 ≤ v0_3 ∧ r.2.2.2.2.2.1 ≤ r.1 + 4 ∧ r.2.2.2.2.2.1 ≤ v1_2 + 4 ∧ r.2.2.2.2.2.2.1 ≤ r.2.2.2.2.1 ∧ r.2.2.2.2.2.2.2.2.1 ≤ r.1 + 11 ∧ r.2.2.2.2.2.2.2.2.1 ≤ r.2.2.2.2.2.1 + 11 ∧ r.2.2.2.2.2.2.2.2.1 ≤ v1_4 + 11 ∧ r.2.2.2.2.2.2.2.2.2.1 ≤ r.1 + 13 ∧ r.2.2.2.2.2.2.2.2.2.1 ≤ v1_4 + 13 ∧ v0_2 ≤ r.2.2.1 ∧ v0_3 ≤ r.2.2.2.1 ∧ v1_3 ≤ r.2.2.2.2.2.2.1 ∧ v1_4 ≤ 1 ∧ v1_4 ≤ r.1 ∧ v1_4 ≤ r.2.2.2.2.2.2.2.2.1 + 2 ∧ v1_4 ≤ r.2.2.2.2.2.2.2.2.2.1 ∧ v1_4 ≤ v1_2 + 1 ∧ v1_4 ≤ v1_3 + 1 ∧ v1_4 ≤ v1_5 + 1 ∧ v1_4 ≤ v1_7 + 2 ∧ v1_4 ≤ v2_0 + 1 ∧ v1_7 ≤ (-1) ∧ v1_7 + 2 ≤ r.1 ∧ v1_7 < r.2.2.2.2.2.1 ∧ v1_7 + 2 ≤ r.2.2.2.2.2.2.2.2.2.1 ∧ v1_7 < v1_2 ∧ v1_7 < v1_3 ∧ v1_7 + 2 ≤ v1_4 ∧ v1_7 < v1_5 ∧ v1_7 < v2_0 ∧ v2_0 ≤ r.1 + 3 ∧ v2_0 ≤ v1_4 + 3) ∧ (r.1 = 1 → (-1000000) ≤ r.2.1 ∧ 1 ≤ r.2.2.2.2.2.2.2.2.2.1 ∧ 1 ≤ v1_4 ∧ r.2.1 ≤ 1000000 ∧ r.2.2.1 ≤ v0_2 ∧ r.2.2.2.1 ≤ v0_3 ∧ r.2.2.2.2.2.1 ≤ r.1 + 4 ∧ r.2.2.2.2.2.1 ≤ v1_2 + 4 ∧ r.2.2.2.2.2.2.1 ≤ r.2.2.2.2.1 ∧ r.2.2.2.2.2.2.2.2.1 ≤ r.1 + 11 ∧ r.2.2.2.2.2.2.2.2.1 ≤ r.2.2.2.2.2.1 + 11 ∧ r.2.2.2.2.2.2.2.2.1 ≤ v1_4 + 11 ∧ r.2.2.2.2.2.2.2.2.2.1 ≤ r.1 + 13 ∧ r.2.2.2.2.2.2.2.2.2.1 ≤ v1_4 + 13 ∧ v0_2 ≤ r.2.2.1 ∧ v0_3 ≤ r.2.2.2.1 ∧ v1_3 ≤ r.2.2.2.2.2.2.1 ∧ v1_4 ≤ 1 ∧ v1_4 ≤ r.1 ∧ v1_4 ≤ r.2.2.2.2.2.2.2.2.1 + 2 ∧ v1_4 ≤ r.2.2.2.2.2.2.2.2.2.1 ∧ v1_4 ≤ v1_2 + 1 ∧ v1_4 ≤ v1_3 + 1 ∧ v1_4 ≤ v1_5 + 1 ∧ v1_4 ≤ v1_7 + 2 ∧ v1_4 ≤ v2_0 + 1 ∧ v1_7 ≤ (-1) ∧ v1_7 + 2 ≤ r.1 ∧ v1_7 < r.2.2.2.2.2.1 ∧ v1_7 + 2 ≤ r.2.2.2.2.2.2.2.2.2.1 ∧ v1_7 < v1_2 ∧ v1_7 < v1_3 ∧ v1_7 + 2 ≤ v1_4 ∧ v1_7 < v1_5 ∧ v1_7 < v2_0 ∧ v2_0 ≤ r.1 + 3 ∧ v2_0 ≤ v1_4 + 3) ∧ (¬ r.1 = 1 → 1 ≤ r.2.2.1 ∧ 0 ≤ r.2.2.2.1 ∧ r.1 ≤ 0 ∧ r.1 < r.2.2.1 ∧ r.1 ≤ r.2.2.2.1 ∧ r.1 ≤ r.2.2.2.2.2.1 ∧ r.1 ≤ r.2.2.2.2.2.2.1 ∧ r.1 ≤ v1_2 ∧ r.1 ≤ v1_3 ∧ r.1 ≤ v1_5 ∧ r.1 ≤ v1_7 + 1 ∧ r.1 ≤ v2_0 ∧ r.1 ≤ v4_0 ∧ r.2.2.2.2.2.2.2.2.2.2.1 ≤ v4_1 ∧ r.2.2.1 ≤ 3 ∧ r.2.2.1 ≤ r.1 + 3 ∧ r.2.2.1 ≤ r.2.2.2.2.2.1 + 2 ∧ r.2.2.1 ≤ v1_4 + 2 ∧ r.2.2.2.1 ≤ 1200 ∧ r.2.2.2.2.2.2.2.2.2.1 ≤ v4_0 ∧ v4_1 ≤ r.2.2.2.2.2.2.2.2.2.2.1)) := by
  unfold fn_X5_readLet
  refine zw_zb0 (sf_X5_readNewName v0_1 v0_2 v0_3 v1_2 v1_3 v1_4 v1_5 v1_6 v1_7 v2_0 f3 v4_0 f5 f6 f7 (by grind [zu_at, zu_atL]) (by grind [zu_at, zu_atL]) (by grind [zu_at, zu_atL]) (by grind [zu_at, zu_atL]) (by grind [zu_at, zu_atL]) (by grind [zu_at, zu_atL]) (by grind [zu_at, zu_atL])) (fun o_1 ho_1 => ?_)
  refine zw_if (fun c1 => ?_) (fun c1 => ?_)
  · refine zw_some ?_
    first | trivial | (try dsimp only); grind [zu_at, zu_atL]
  refine zw_zb0 (sf_X5_readSign 61 o_1.2.2.1 o_1.2.2.2.1 v1_2 o_1.2.2.2.2.1 o_1.2.2.2.2.2.1 o_1.2.2.2.2.2.2.1 o_1.2.2.2.2.2.2.2.1 o_1.2.2.2.2.2.2.2.2 f6 f7 (by grind [zu_at, zu_atL]) (by grind [zu_at, zu_atL]) (by grind [zu_at, zu_atL]) (by grind [zu_at, zu_atL]) (by grind [zu_at, zu_atL])) (fun o_6 ho_6 => ?_)
  refine zw_if (fun c2 => ?_) (fun c2 => ?_)
  · refine zw_some ?_
    first | trivial | (try dsimp only); grind [zu_at, zu_atL]
  refine zw_zb0 (sf_X5_readWhat 0 o_1.2.1 o_6.2.1 o_6.2.2.1 v1_2 o_6.2.2.2.1 o_6.2.2.2.2.1 o_6.2.2.2.2.2.1 o_6.2.2.2.2.2.2.1 o_6.2.2.2.2.2.2.2 f6 f7 v4_0 f8 f9 f5 (by grind [zu_at, zu_atL]) (by grind [zu_at, zu_atL]) (by grind [zu_at, zu_atL]) (by grind [zu_at, zu_atL]) (by grind [zu_at, zu_atL]) (by grind [zu_at, zu_atL])) (fun o_11 ho_11 => ?_)
  refine zw_if (fun c3 => ?_) (fun c3 => ?_)
  · refine zw_some ?_
    first | trivial | (try dsimp only); grind [zu_at, zu_atL]
  refine zw_zb0 (sf_X5_readOp o_11.2.1 o_11.2.2.1 o_11.2.2.2.1 v1_2 o_11.2.2.2.2.1 o_11.2.2.2.2.2.1 o_11.2.2.2.2.2.2.1 o_11.2.2.2.2.2.2.2.1 o_11.2.2.2.2.2.2.2.2.1 f6 f7 (by grind [zu_at, zu_atL]) (by grind [zu_at, zu_atL]) (by grind [zu_at, zu_atL]) (by grind [zu_at, zu_atL]) (by grind [zu_at, zu_atL])) (fun o_16 ho_16 => ?_)
  refine zw_if (fun c4 => ?_) (fun c4 => ?_)
  · refine zw_some ?_
    first | trivial | (try dsimp only); grind [zu_at, zu_atL]
  refine zw_zb0 (sf_X5_readWhat 1 o_16.2.1 o_16.2.2.1 o_16.2.2.2.1 v1_2 o_16.2.2.2.2.1 o_16.2.2.2.2.2.1 o_16.2.2.2.2.2.2.1 o_16.2.2.2.2.2.2.2.1 o_16.2.2.2.2.2.2.2.2 f6 f7 v4_0 o_11.2.2.2.2.2.2.2.2.2.1 o_11.2.2.2.2.2.2.2.2.2.2 f5 (by grind [zu_at, zu_atL]) (by grind [zu_at, zu_atL]) (by grind [zu_at, zu_atL]) (by grind [zu_at, zu_atL]) (by grind [zu_at, zu_atL]) (by grind [zu_at, zu_atL])) (fun o_21 ho_21 => ?_)
  refine zw_if (fun c5 => ?_) (fun c5 => ?_)
  · refine zw_some ?_
    first | trivial | (try dsimp only); grind [zu_at, zu_atL]
  refine zw_zb0 (sf_X4_add o_1.2.1 o_16.2.1 v4_0 v4_1 f5 f10 f11 f12 f13 o_21.2.2.2.2.2.2.2.2.2.1 f14 (by grind [zu_at, zu_atL])) (fun o_26 ho_26 => ?_)
  refine zw_some ?_
  first | trivial | (try dsimp only); grind [zu_at, zu_atL]
set_option maxHeartbeats 1000000 in
theorem sf_X5_readFixed (v0_1 : Int32) (v0_2 : Int32) (v0_3 : Int32) (v1_0 : Int32) (v2_2 : Int32) (v2_3 : Int32) (v2_4 : Int32) (v2_5 : Int32) (v2_6 : Int32) (v2_7 : Int32) (v3_0 : Int32) (f4 : Nat → Int32) (f5 : Nat → Int32) (f6 : Nat → Int32) (f7 : Nat → Int32) (f8 : Nat → Int32) (h_v1_0 : 0 ≤ v1_0 ∧ v1_0 ≤ 4) (h_v2_2 : 0 ≤ v2_2 ∧ v2_2 ≤ 1200) (h_v2_3 : 0 ≤ v2_3 ∧ v2_3 ≤ 1200) (h_v2_4 : 0 ≤ v2_4 ∧ v2_4 ≤ 5) (h_v2_5 : 0 ≤ v2_5 ∧ v2_5 ≤ 1200) (h_v2_7 : (-1) ≤ v2_7 ∧ v2_7 ≤ 12) (h_v3_0 : 0 ≤ v3_0 ∧ v3_0 ≤ 14) : zw (fn_X5_readFixed v0_1 v0_2 v0_3 v1_0 v2_2 v2_3 v2_4 v2_5 v2_6 v2_7 v3_0 f4 f5 f6 f7 f8) (fun r => 0 ≤ r.1 ∧ r.1 ≤ 1 ∧ 0 ≤ r.2.2.2.2.1 ∧ r.2.2.2.2.1 ≤ 1200 ∧ 0 ≤ r.2.2.2.2.2.1 ∧ r.2.2.2.2.2.1 ≤ 5 ∧ 0 ≤ r.2.2.2.2.2.2.1 ∧ r.2.2.2.2.2.2.1 ≤ 1200 ∧ (-1) ≤ r.2.2.2.2.2.2.2.2.1 ∧ r.2.2.2.2.2.2.2.2.1 ≤ 12 ∧ r.1 ≤ v2_4 ∧ r.2.2.2.2.2.1 ≤ v2_4 + 4 ∧ v2_3 ≤ r.2.2.2.2.1 ∧ v2_4 ≤ r.2.2.2.2.2.1 + 1 ∧ v2_7 ≤ r.2.2.2.2.2.2.2.2.1 ∧ (r.1 = 0 → 1 ≤ r.2.2.1 ∧ 0 ≤ r.2.2.2.1 ∧ r.1 < r.2.2.1 ∧ r.1 ≤ r.2.2.2.1 ∧ r.1 ≤ r.2.2.2.2.2.1 ∧ r.1 ≤ r.2.2.2.2.2.2.1 ∧ r.1 ≤ v1_0 ∧ r.1 ≤ v2_2 ∧ r.1 ≤ v2_3 ∧ r.1 ≤ v2_5 ∧ r.1 ≤ v2_7 + 1 ∧ r.1 ≤ v3_0 ∧ r.2.2.1 ≤ 3 ∧ r.2.2.1 ≤ r.1 + 3 ∧ r.2.2.1 ≤ r.2.2.2.2.2.1 + 2 ∧ r.2.2.1 ≤ v2_4 + 2 ∧ r.2.2.2.1 ≤ 1200 ∧ r.2.2.2.1 ≤ r.2.2.2.2.2.2.1 ∧ r.2.2.2.2.2.2.1 ≤ r.2.2.2.1) ∧ (¬ r.1 = 0 → 1 ≤ r.1 ∧ (-1) ≤ r.2.1 ∧ 1 ≤ v2_4 ∧ r.1 ≤ r.2.1 + 2 ∧ r.2.1 < v1_0 ∧ r.2.2.1 ≤ v0_2 ∧ r.2.2.2.1 ≤ v0_3 ∧ r.2.2.2.2.2.1 ≤ r.1 + 4 ∧ r.2.2.2.2.2.1 ≤ v2_2 + 4 ∧ r.2.2.2.2.2.2.1 ≤ r.2.2.2.2.1 ∧ r.2.2.2.2.2.2.2.2.1 ≤ r.1 + 11 ∧ r.2.2.2.2.2.2.2.2.1 ≤ r.2.2.2.2.2.1 + 11 ∧ r.2.2.2.2.2.2.2.2.1 ≤ v2_4 + 11 ∧ v0_2 ≤ r.2.2.1 ∧ v0_3 ≤ r.2.2.2.1 ∧ v1_0 ≤ r.1 + 3 ∧ v1_0 ≤ v2_4 + 3 ∧ v2_3 ≤ r.2.2.2.2.2.2.1 ∧ v2_4 ≤ 1 ∧ v2_4 ≤ r.1 ∧ v2_4 ≤ r.2.1 + 2 ∧ v2_4 ≤ r.2.2.2.2.2.2.2.2.1 + 2 ∧ v2_4 ≤ v2_2 + 1 ∧ v2_4 ≤ v2_3 + 1 ∧ v2_4 ≤ v2_5 + 1 ∧ v2_4 ≤ v2_7 + 2 ∧ v2_4 ≤ v3_0 + 1 ∧ v2_7 ≤ (-1) ∧ v2_7 + 2 ≤ r.1 ∧ v2_7 ≤ r.2.1 ∧ v2_7 < r.2.2.2.2.2.1 ∧ v2_7 < v2_2 ∧ v2_7 < v2_3 ∧ v2_7 + 2 ≤ v2_4 ∧ v2_7 < v2_5 ∧ v2_7 < v3_0 ∧ v3_0 ≤ r.1 + 13 ∧ v3_0 ≤ v2_4 + 13) ∧ (r.1 = 1 → (-1) ≤ r.2.1 ∧ 1 ≤ v2_4 ∧ r.1 ≤ r.2.1 + 2 ∧ r.2.1 < v1_0 ∧ r.2.2.1 ≤ v0_2 ∧ r.2.2.2.1 ≤ v0_3 ∧ r.2.2.2.2.2.1 ≤ r.1 + 4 ∧ r.2.2.2.2.2.1 ≤ v2_2 + 4 ∧ r.2.2.2.2.2.2.1 ≤ r.2.2.2.2.1 ∧ r.2.2.2.2.2.2.2.2.1 ≤ r.1 + 11 ∧ r.2.2.2.2.2.2.2.2.1 ≤ r.2.2.2.2.2.1 + 11 ∧ r.2.2.2.2.2.2.2.2.1 ≤ v2_4 + 11 ∧ v0_2 ≤ r.2.2.1 ∧ v0_3 ≤ r.2.2.2.1 ∧ v1_0 ≤ r.1 + 3 ∧ v1_0 ≤ v2_4 + 3 ∧ v2_3 ≤ r.2.2.2.2.2.2.1 ∧ v2_4 ≤ 1 ∧ v2_4 ≤ r.1 ∧ v2_4 ≤ r.2.1 + 2 ∧ v2_4 ≤ r.2.2.2.2.2.2.2.2.1 + 2 ∧ v2_4 ≤ v2_2 + 1 ∧ v2_4 ≤ v2_3 + 1 ∧ v2_4 ≤ v2_5 + 1 ∧ v2_4 ≤ v2_7 + 2 ∧ v2_4 ≤ v3_0 + 1 ∧ v2_7 ≤ (-1) ∧ v2_7 + 2 ≤ r.1 ∧ v2_7 ≤ r.2.1 ∧ v2_7 < r.2.2.2.2.2.1 ∧ v2_7 < v2_2 ∧ v2_7 < v2_3 ∧ v2_7 + 2 ≤ v2_4 ∧ v2_7 < v2_5 ∧ v2_7 < v3_0 ∧ v3_0 ≤ r.1 + 13 ∧ v3_0 ≤ v2_4 + 13) ∧ (¬ r.1 = 1 → 1 ≤ r.2.2.1 ∧ 0 ≤ r.2.2.2.1 ∧ r.1 ≤ 0 ∧ r.1 < r.2.2.1 ∧ r.1 ≤ r.2.2.2.1 ∧ r.1 ≤ r.2.2.2.2.2.1 ∧ r.1 ≤ r.2.2.2.2.2.2.1 ∧ r.1 ≤ v1_0 ∧ r.1 ≤ v2_2 ∧ r.1 ≤ v2_3 ∧ r.1 ≤ v2_5 ∧ r.1 ≤ v2_7 + 1 ∧ r.1 ≤ v3_0 ∧ r.2.2.1 ≤ 3 ∧ r.2.2.1 ≤ r.1 + 3 ∧ r.2.2.1 ≤ r.2.2.2.2.2.1 + 2 ∧ r.2.2.1 ≤ v2_4 + 2 ∧ r.2.2.2.1 ≤ 1200 ∧ r.2.2.2.1 ≤ r.2.2.2.2.2.2.1 ∧ r.2.2.2.2.2.2.1 ≤ r.2.2.2.1)) := by
  unfold fn_X5_readFixed
  refine zw_zb0 (sf_X4_find v2_6 v3_0 f4 (by grind [zu_at, zu_atL])) (fun o_1 ho_1 => ?_)
  refine zw_zb0 (sf_X5_readKnown o_1 v0_1 v0_2 v0_3 v2_2 v2_3 v2_4 v2_5 v2_6 v2_7 f5 f6 (by grind [zu_at, zu_atL]) (by grind [zu_at, zu_atL]) (by grind [zu_at, zu_atL]) (by grind [zu_at, zu_atL]) (by grind [zu_at, zu_atL])) (fun o_5 ho_5 => ?_)
  refine zw_if (fun c1 => ?_) (fun c1 => ?_)
  · refine zw_some ?_
    first | trivial | (try dsimp only); grind [zu_at, zu_atL]
  refine zw_zb0 (sf_X9_findFormat o_5.2.2.2.2.2.2.2.1 v1_0 f7 (by grind [zu_at, zu_atL])) (fun o_10 ho_10 => ?_)
  refine zw_zb0 (sf_X5_readKnown o_10 o_5.2.1 o_5.2.2.1 o_5.2.2.2.1 v2_2 o_5.2.2.2.2.1 o_5.2.2.2.2.2.1 o_5.2.2.2.2.2.2.1 o_5.2.2.2.2.2.2.2.1 o_5.2.2.2.2.2.2.2.2 f5 f6 (by grind [zu_at, zu_atL]) (by grind [zu_at, zu_atL]) (by grind [zu_at, zu_atL]) (by grind [zu_at, zu_atL]) (by grind [zu_at, zu_atL])) (fun o_14 ho_14 => ?_)
  refine zw_if (fun c2 => ?_) (fun c2 => ?_)
  · refine zw_some ?_
    first | trivial | (try dsimp only); grind [zu_at, zu_atL]
  refine zw_zb0 (sf_X4_fix o_5.2.1 o_14.2.1 v3_0 f8 (by grind [zu_at, zu_atL])) (fun o_19 ho_19 => ?_)
  refine zw_some ?_
  first | trivial | (try dsimp only); grind [zu_at, zu_atL]
set_option maxHeartbeats 1000000 in
theorem sf_X5_readGroup (v0_1 : Int32) (v0_2 : Int32) (v0_3 : Int32) (v2_2 : Int32) (v2_3 : Int32) (v2_4 : Int32) (v2_5 : Int32) (v2_6 : Int32) (v2_7 : Int32) (v3_0 : Int32) (f4 : Nat → Int32) (f5 : Nat → Int32) (f6 : Nat → Int32) (f7 : Nat → Int32) (h_v2_2 : 0 ≤ v2_2 ∧ v2_2 ≤ 1200) (h_v2_3 : 0 ≤ v2_3 ∧ v2_3 ≤ 1200) (h_v2_4 : 0 ≤ v2_4 ∧ v2_4 ≤ 5) (h_v2_5 : 0 ≤ v2_5 ∧ v2_5 ≤ 1200) (h_v2_7 : (-1) ≤ v2_7 ∧ v2_7 ≤ 12) (h_v3_0 : 0 ≤ v3_0 ∧ v3_0 ≤ 14) : zw (fn_X5_readGroup v0_1 v0_2 v0_3 v2_2 v2_3 v2_4 v2_5 v2_6 v2_7 v3_0 f4 f5 f6 f7) (fun r => 0 ≤ r.1 ∧ r.1 ≤ 1 ∧ 0 ≤ r.2.2.2.2.1 ∧ r.2.2.2.2.1 ≤ 1200 ∧ 0 ≤ r.2.2.2.2.2.1 ∧ r.2.2.2.2.2.1 ≤ 5 ∧ 0 ≤ r.2.2.2.2.2.2.1 ∧ r.2.2.2.2.2.2.1 ≤ 1200 ∧ (-1) ≤ r.2.2.2.2.2.2.2.2.1 ∧ r.2.2.2.2.2.2.2.2.1 ≤ 12 ∧ r.1 ≤ v2_4 ∧ r.1 ≤ v3_0 ∧ r.2.2.2.2.2.1 ≤ v2_4 + 4 ∧ v2_3 ≤ r.2.2.2.2.1 ∧ v2_4 ≤ r.2.2.2.2.2.1 + 1 ∧ v2_7 ≤ r.2.2.2.2.2.2.2.2.1 ∧ (r.1 = 0 → 1 ≤ r.2.2.1 ∧ 0 ≤ r.2.2.2.1 ∧ r.1 < r.2.2.1 ∧ r.1 ≤ r.2.2.2.1 ∧ r.1 ≤ r.2.2.2.2.2.1 ∧ r.1 ≤ v2_2 ∧ r.1 ≤ v2_3 ∧ r.1 ≤ v2_5 ∧ r.1 ≤ v2_7 + 1 ∧ r.2.2.1 ≤ 3 ∧ r.2.2.1 ≤ r.1 + 3 ∧ r.2.2.1 ≤ v2_4 + 2 ∧ r.2.2.2.1 ≤ r.2.2.2.2.2.2.1) ∧ (¬ r.1 = 0 → 1 ≤ r.1 ∧ (-1) ≤ r.2.1 ∧ 1 ≤ v2_4 ∧ 1 ≤ v3_0 ∧ r.1 ≤ r.2.1 + 2 ∧ r.2.1 < v3_0 ∧ r.2.2.1 ≤ v0_2 ∧ r.2.2.2.1 ≤ v0_3 ∧ r.2.2.2.2.2.1 ≤ r.1 + 4 ∧ r.2.2.2.2.2.1 ≤ v2_2 + 4 ∧ r.2.2.2.2.2.2.1 ≤ r.2.2.2.2.1 ∧ r.2.2.2.2.2.2.2.2.1 ≤ r.1 + 11 ∧ r.2.2.2.2.2.2.2.2.1 ≤ r.2.2.2.2.2.1 + 11 ∧ r.2.2.2.2.2.2.2.2.1 ≤ v2_4 + 11 ∧ v0_2 ≤ r.2.2.1 ∧ v0_3 ≤ r.2.2.2.1 ∧ v2_3 ≤ r.2.2.2.2.2.2.1 ∧ v2_4 ≤ 1 ∧ v2_4 ≤ r.1 ∧ v2_4 ≤ r.2.1 + 2 ∧ v2_4 ≤ r.2.2.2.2.2.2.2.2.1 + 2 ∧ v2_4 ≤ v2_2 + 1 ∧ v2_4 ≤ v2_3 + 1 ∧ v2_4 ≤ v2_5 + 1 ∧ v2_4 ≤ v2_7 + 2 ∧ v2_4 ≤ v3_0 ∧ v2_7 ≤ (-1) ∧ v2_7 + 2 ≤ r.1 ∧ v2_7 ≤ r.2.1 ∧ v2_7 < r.2.2.2.2.2.1 ∧ v2_7 < v2_2 ∧ v2_7 < v2_3 ∧ v2_7 + 2 ≤ v2_4 ∧ v2_7 < v2_5 ∧ v2_7 + 2 ≤ v3_0 ∧ v3_0 ≤ r.1 + 13 ∧ v3_0 ≤ v2_4 + 13) ∧ (r.1 = 1 → (-1) ≤ r.2.1 ∧ 1 ≤ v2_4 ∧ 1 ≤ v3_0 ∧ r.1 ≤ r.2.1 + 2 ∧ r.2.1 < v3_0 ∧ r.2.2.1 ≤ v0_2 ∧ r.2.2.2.1 ≤ v0_3 ∧ r.2.2.2.2.2.1 ≤ r.1 + 4 ∧ r.2.2.2.2.2.1 ≤ v2_2 + 4 ∧ r.2.2.2.2.2.2.1 ≤ r.2.2.2.2.1 ∧ r.2.2.2.2.2.2.2.2.1 ≤ r.1 + 11 ∧ r.2.2.2.2.2.2.2.2.1 ≤ r.2.2.2.2.2.1 + 11 ∧ r.2.2.2.2.2.2.2.2.1 ≤ v2_4 + 11 ∧ v0_2 ≤ r.2.2.1 ∧ v0_3 ≤ r.2.2.2.1 ∧ v2_3 ≤ r.2.2.2.2.2.2.1 ∧ v2_4 ≤ 1 ∧ v2_4 ≤ r.1 ∧ v2_4 ≤ r.2.1 + 2 ∧ v2_4 ≤ r.2.2.2.2.2.2.2.2.1 + 2 ∧ v2_4 ≤ v2_2 + 1 ∧ v2_4 ≤ v2_3 + 1 ∧ v2_4 ≤ v2_5 + 1 ∧ v2_4 ≤ v2_7 + 2 ∧ v2_4 ≤ v3_0 ∧ v2_7 ≤ (-1) ∧ v2_7 + 2 ≤ r.1 ∧ v2_7 ≤ r.2.1 ∧ v2_7 < r.2.2.2.2.2.1 ∧ v2_7 < v2_2 ∧ v2_7 < v2_3 ∧ v2_7 + 2 ≤ v2_4 ∧ v2_7 < v2_5 ∧ v2_7 + 2 ≤ v3_0 ∧ v3_0 ≤ r.1 + 13 ∧ v3_0 ≤ v2_4 + 13) ∧ (¬ r.1 = 1 → 1 ≤ r.2.2.1 ∧ 0 ≤ r.2.2.2.1 ∧ r.1 ≤ 0 ∧ r.1 < r.2.2.1 ∧ r.1 ≤ r.2.2.2.1 ∧ r.1 ≤ r.2.2.2.2.2.1 ∧ r.1 ≤ v2_2 ∧ r.1 ≤ v2_3 ∧ r.1 ≤ v2_5 ∧ r.1 ≤ v2_7 + 1 ∧ r.2.2.1 ≤ 3 ∧ r.2.2.1 ≤ r.1 + 3 ∧ r.2.2.1 ≤ v2_4 + 2 ∧ r.2.2.2.1 ≤ r.2.2.2.2.2.2.1)) := by
  unfold fn_X5_readGroup
  refine zw_zb0 (sf_X4_find v2_6 v3_0 f4 (by grind [zu_at, zu_atL])) (fun o_1 ho_1 => ?_)
  refine zw_zb0 (sf_X5_readKnown o_1 v0_1 v0_2 v0_3 v2_2 v2_3 v2_4 v2_5 v2_6 v2_7 f5 f6 (by grind [zu_at, zu_atL]) (by grind [zu_at, zu_atL]) (by grind [zu_at, zu_atL]) (by grind [zu_at, zu_atL]) (by grind [zu_at, zu_atL])) (fun o_5 ho_5 => ?_)
  refine zw_if (fun c1 => ?_) (fun c1 => ?_)
  · refine zw_some ?_
    first | trivial | (try dsimp only); grind [zu_at, zu_atL]
  refine zw_zb0 (sf_X4_find o_5.2.2.2.2.2.2.2.1 v3_0 f4 (by grind [zu_at, zu_atL])) (fun o_10 ho_10 => ?_)
  refine zw_zb0 (sf_X5_readKnown o_10 o_5.2.1 o_5.2.2.1 o_5.2.2.2.1 v2_2 o_5.2.2.2.2.1 o_5.2.2.2.2.2.1 o_5.2.2.2.2.2.2.1 o_5.2.2.2.2.2.2.2.1 o_5.2.2.2.2.2.2.2.2 f5 f6 (by grind [zu_at, zu_atL]) (by grind [zu_at, zu_atL]) (by grind [zu_at, zu_atL]) (by grind [zu_at, zu_atL]) (by grind [zu_at, zu_atL])) (fun o_14 ho_14 => ?_)
  refine zw_if (fun c2 => ?_) (fun c2 => ?_)
  · refine zw_some ?_
    first | trivial | (try dsimp only); grind [zu_at, zu_atL]
  refine zw_if (fun c3 => ?_) (fun c3 => ?_)
  · refine zw_zb0 (sf_X5_stopAt 3 o_5.2.2.2.2.2.2.1) (fun o_24 ho_24 => ?_)
    refine zw_some ?_
    first | trivial | (try dsimp only); grind [zu_at, zu_atL]
  refine zw_zb0 (sf_X4_join o_5.2.1 o_14.2.1 v3_0 f7 (by grind [zu_at, zu_atL])) (fun o_20 ho_20 => ?_)
  refine zw_some ?_
  first | trivial | (try dsimp only); grind [zu_at, zu_atL]
set_option maxHeartbeats 1000000 in
theorem sf_X5_readStatement (p2 : Int32) (v0_1 : Int32) (v0_2 : Int32) (v0_3 : Int32) (v1_2 : Int32) (v1_3 : Int32) (v1_4 : Int32) (v1_5 : Int32) (v1_6 : Int32) (v1_7 : Int32) (v2_0 : Int32) (v2_5 : Int32) (v3_0 : Int32) (v3_1 : Int32) (f4 : Nat → Int32) (f5 : Nat → Int32) (f6 : Nat → Int32) (f7 : Nat → Int32) (f8 : Nat → Int32) (f9 : Nat → Int32) (f10 : Nat → Int32) (f11 : Nat → Int32) (f12 : Nat → Int32) (f13 : Nat → Int32) (f14 : Nat → Int32) (f15 : Nat → Int32) (f16 : Nat → Int32) (f17 : Nat → Int32) (h_v1_2 : 0 ≤ v1_2 ∧ v1_2 ≤ 1200) (h_v1_3 : 0 ≤ v1_3 ∧ v1_3 ≤ 1200) (h_v1_4 : 0 ≤ v1_4 ∧ v1_4 ≤ 5) (h_v1_5 : 0 ≤ v1_5 ∧ v1_5 ≤ 1200) (h_v1_7 : (-1) ≤ v1_7 ∧ v1_7 ≤ 12) (h_v2_0 : 0 ≤ v2_0 ∧ v2_0 ≤ 4) (h_v3_0 : 0 ≤ v3_0 ∧ v3_0 ≤ 14) : zw (fn_X5_readStatement p2 v0_1 v0_2 v0_3 v1_2 v1_3 v1_4 v1_5 v1_6 v1_7 v2_0 v2_5 v3_0 v3_1 f4 f5 f6 f7 f8 f9 f10 f11 f12 f13 f14 f15 f16 f17) (fun r => 0 ≤ r.1 ∧ r.1 ≤ 1 ∧ 0 ≤ r.2.2.2.2.1 ∧ r.2.2.2.2.1 ≤ 1200 ∧ 0 ≤ r.2.2.2.2.2.1 ∧ r.2.2.2.2.2.1 ≤ 5 ∧ 0 ≤ r.2.2.2.2.2.2.1 ∧ r.2.2.2.2.2.2.1 ≤ 1200 ∧ (-1) ≤ r.2.2.2.2.2.2.2.2.1 ∧ r.2.2.2.2.2.2.2.2.1 ≤ 12 ∧ 0 ≤ r.2.2.2.2.2.2.2.2.2.1 ∧ r.2.2.2.2.2.2.2.2.2.1 ≤ 4 ∧ 0 ≤ r.2.2.2.2.2.2.2.2.2.2.2.1 ∧ r.2.2.2.2.2.2.2.2.2.2.2.1 ≤ 14 ∧ r.1 ≤ v1_7 + 1 ∧ r.2.2.2.2.2.2.2.2.2.2.2.1 ≤ v3_0 + 1 ∧ r.2.2.2.2.2.2.2.2.1 ≤ v1_7 + 12 ∧ r.2.2.2.2.2.2.2.2.2.1 ≤ v2_0 + 1 ∧ v1_3 ≤ r.2.2.2.2.1 ∧ v1_7 ≤ r.2.2.2.2.2.2.2.2.1 + 12 ∧ v2_0 ≤ r.2.2.2.2.2.2.2.2.2.1 ∧ v3_0 ≤ r.2.2.2.2.2.2.2.2.2.2.2.1 ∧ (r.1 = 0 → r.1 ≤ r.2.2.2.2.2.1 ∧ r.1 ≤ r.2.2.2.2.2.2.1 ∧ r.1 ≤ r.2.2.2.2.2.2.2.2.1 + 1 ∧ r.1 ≤ v1_2 ∧ r.1 ≤ v1_3 ∧ r.1 ≤ v1_4 ∧ r.1 ≤ v1_5 ∧ r.1 ≤ v2_0 ∧ r.1 ≤ v3_0) ∧ (¬ r.1 = 0 → 1 ≤ r.1 ∧ 0 ≤ v1_7 ∧ p2 ≤ 39 ∧ r.2.2.2.2.2.2.2.2.2.2.2.1 ≤ r.1 + 13 ∧ r.2.2.2.2.2.1 ≤ r.1 + 4 ∧ r.2.2.2.2.2.1 ≤ v1_2 + 4 ∧ r.2.2.2.2.2.2.1 ≤ r.2.2.2.2.1 ∧ r.2.2.2.2.2.2.2.2.1 ≤ r.1 + 11 ∧ r.2.2.2.2.2.2.2.2.1 ≤ r.2.2.2.2.2.1 + 11 ∧ r.2.2.2.2.2.2.2.2.2.1 ≤ r.1 + 3 ∧ v1_3 ≤ r.2.2.2.2.2.2.1 ∧ v1_4 ≤ r.1 + 4 ∧ v1_7 ≤ 11 ∧ v1_7 ≤ r.1 + 10) ∧ (r.1 = 1 → 0 ≤ v1_7 ∧ p2 ≤ 39 ∧ r.2.2.2.2.2.2.2.2.2.2.2.1 ≤ r.1 + 13 ∧ r.2.2.2.2.2.1 ≤ r.1 + 4 ∧ r.2.2.2.2.2.1 ≤ v1_2 + 4 ∧ r.2.2.2.2.2.2.1 ≤ r.2.2.2.2.1 ∧ r.2.2.2.2.2.2.2.2.1 ≤ r.1 + 11 ∧ r.2.2.2.2.2.2.2.2.1 ≤ r.2.2.2.2.2.1 + 11 ∧ r.2.2.2.2.2.2.2.2.2.1 ≤ r.1 + 3 ∧ v1_3 ≤ r.2.2.2.2.2.2.1 ∧ v1_4 ≤ r.1 + 4 ∧ v1_7 ≤ 11 ∧ v1_7 ≤ r.1 + 10) ∧ (¬ r.1 = 1 → r.1 ≤ 0 ∧ r.1 ≤ r.2.2.2.2.2.1 ∧ r.1 ≤ r.2.2.2.2.2.2.1 ∧ r.1 ≤ r.2.2.2.2.2.2.2.2.1 + 1 ∧ r.1 ≤ v1_2 ∧ r.1 ≤ v1_3 ∧ r.1 ≤ v1_4 ∧ r.1 ≤ v1_5 ∧ r.1 ≤ v2_0 ∧ r.1 ≤ v3_0)) := by
  unfold fn_X5_readStatement
  refine zw_zb0 (sf_X5_startsStatement v1_7) (fun o_1 ho_1 => ?_)
  refine zw_if (fun c1 => ?_) (fun c1 => ?_)
  · refine zw_zb0 (sf_X5_stopAt 1 v1_5) (fun o_90 ho_90 => ?_)
    refine zw_some ?_
    first | trivial | (try dsimp only); grind [zu_at, zu_atL]
  refine zw_if (fun c2 => ?_) (fun c2 => ?_)
  · refine zw_zb0 (sf_X5_stopAt 4 v1_5) (fun o_7 ho_7 => ?_)
    refine zw_some ?_
    first | trivial | (try dsimp only); grind [zu_at, zu_atL]
  refine zw_zb0 (sf_X5_isFull v1_7 v2_0 v3_0 (by grind [zu_at, zu_atL]) (by grind [zu_at, zu_atL])) (fun o_11 ho_11 => ?_)
  refine zw_if (fun c3 => ?_) (fun c3 => ?_)
  · refine zw_zb0 (sf_X10_advance v1_2 v1_3 v1_4 f4 f5 (by grind [zu_at, zu_atL]) (by grind [zu_at, zu_atL]) (by grind [zu_at, zu_atL])) (fun o_16 ho_16 => ?_)
    refine zw_zj (fun s_20 => 0 ≤ s_20.1 ∧ 0 ≤ s_20.2.2.2.2.2.2.2.1 ∧ 0 ≤ s_20.2.2.2.2.2.2.2.2.1 ∧ (-1) ≤ s_20.2.2.2.2.2.2.2.2.2.2.1 ∧ o_1 ≤ s_20.1 + 1 ∧ o_1 ≤ s_20.2.2.2.2.2.2.2.1 + 1 ∧ o_1 ≤ s_20.2.2.2.2.2.2.2.2.1 + 1 ∧ o_1 ≤ s_20.2.2.2.2.2.2.2.2.2.2.1 + 2 ∧ o_11 ≤ s_20.1 ∧ o_11 ≤ s_20.2.2.2.2.2.2.2.1 ∧ o_11 ≤ s_20.2.2.2.2.2.2.2.2.1 ∧ o_11 ≤ s_20.2.2.2.2.2.2.2.2.2.2.1 + 1 ∧ o_16.1 ≤ s_20.2.2.2.2.2.2.1 ∧ s_20.1 ≤ 1 ∧ s_20.1 ≤ o_1 ∧ s_20.1 ≤ o_11 + 1 ∧ s_20.2.2.2.2.1 ≤ 4 ∧ s_20.2.2.2.2.1 ≤ o_1 + 3 ∧ s_20.2.2.2.2.1 ≤ o_11 + 4 ∧ s_20.2.2.2.2.1 ≤ v2_0 + 1 ∧ s_20.2.2.2.2.2.2.1 ≤ 1200 ∧ s_20.2.2.2.2.2.2.2.1 ≤ 5 ∧ s_20.2.2.2.2.2.2.2.1 ≤ o_1 + 4 ∧ s_20.2.2.2.2.2.2.2.1 ≤ o_11 + 5 ∧ s_20.2.2.2.2.2.2.2.2.1 ≤ 1200 ∧ s_20.2.2.2.2.2.2.2.2.2.2.1 ≤ 12 ∧ s_20.2.2.2.2.2.2.2.2.2.2.1 ≤ o_1 + 11 ∧ s_20.2.2.2.2.2.2.2.2.2.2.1 ≤ o_11 + 12 ∧ s_20.2.2.2.2.2.2.2.2.2.2.2.1 ≤ 14 ∧ s_20.2.2.2.2.2.2.2.2.2.2.2.1 ≤ o_1 + 13 ∧ s_20.2.2.2.2.2.2.2.2.2.2.2.1 ≤ o_11 + 14 ∧ s_20.2.2.2.2.2.2.2.2.2.2.2.1 ≤ v3_0 + 1 ∧ v2_0 ≤ s_20.2.2.2.2.1 ∧ v3_0 ≤ s_20.2.2.2.2.2.2.2.2.2.2.2.1) (fun s_20 Hj_20 => ?_) (fun j_20 hj_20 => ?_)
    · refine zw_if (fun c4 => ?_) (fun c4 => ?_)
      · refine zw_some ?_
        first | trivial | (try dsimp only); grind [zu_at, zu_atL]
      refine zw_zb0 (sf_X5_readSign 59 s_20.2.2.1 s_20.2.2.2.1 v1_2 s_20.2.2.2.2.2.2.1 s_20.2.2.2.2.2.2.2.1 s_20.2.2.2.2.2.2.2.2.1 s_20.2.2.2.2.2.2.2.2.2.1 s_20.2.2.2.2.2.2.2.2.2.2.1 f4 f5 (by grind [zu_at, zu_atL]) (by grind [zu_at, zu_atL]) (by grind [zu_at, zu_atL]) (by grind [zu_at, zu_atL]) (by grind [zu_at, zu_atL])) (fun o_22 ho_22 => ?_)
      refine zw_if (fun c5 => ?_) (fun c5 => ?_)
      · refine zw_some ?_
        first | trivial | (try dsimp only); grind [zu_at, zu_atL]
      refine zw_some ?_
      first | trivial | (try dsimp only); grind [zu_at, zu_atL]
    refine zw_if (fun c6 => ?_) (fun c6 => ?_)
    · refine zw_zb0 (sf_X5_readFormat v0_1 v0_2 v0_3 v1_2 o_16.1 o_16.2.1 o_16.2.2.1 o_16.2.2.2.1 o_16.2.2.2.2 v2_0 f6 v3_0 f7 f4 f5 f8 f9 f10 (by grind [zu_at, zu_atL]) (by grind [zu_at, zu_atL]) (by grind [zu_at, zu_atL]) (by grind [zu_at, zu_atL]) (by grind [zu_at, zu_atL]) (by grind [zu_at, zu_atL]) (by grind [zu_at, zu_atL])) (fun o_28 ho_28 => ?_)
      exact hj_20 _ (by grind [zu_at, zu_atL])
    refine zw_if (fun c7 => ?_) (fun c7 => ?_)
    · refine zw_zb0 (sf_X5_readAnswer v0_1 v0_2 v0_3 v1_2 o_16.1 o_16.2.1 o_16.2.2.1 o_16.2.2.2.1 o_16.2.2.2.2 v3_0 f7 f4 f5 f11 (by grind [zu_at, zu_atL]) (by grind [zu_at, zu_atL]) (by grind [zu_at, zu_atL]) (by grind [zu_at, zu_atL]) (by grind [zu_at, zu_atL]) (by grind [zu_at, zu_atL])) (fun o_33 ho_33 => ?_)
      exact hj_20 _ (by grind [zu_at, zu_atL])
    refine zw_if (fun c8 => ?_) (fun c8 => ?_)
    · refine zw_zb0 (sf_X5_readAnswer v0_1 v0_2 v0_3 v1_2 o_16.1 o_16.2.1 o_16.2.2.1 o_16.2.2.2.1 o_16.2.2.2.2 v3_0 f7 f4 f5 f11 (by grind [zu_at, zu_atL]) (by grind [zu_at, zu_atL]) (by grind [zu_at, zu_atL]) (by grind [zu_at, zu_atL]) (by grind [zu_at, zu_atL]) (by grind [zu_at, zu_atL])) (fun o_38 ho_38 => ?_)
      exact hj_20 _ (by grind [zu_at, zu_atL])
    refine zw_if (fun c9 => ?_) (fun c9 => ?_)
    · refine zw_zb0 (sf_X5_readAnswer v0_1 v0_2 v0_3 v1_2 o_16.1 o_16.2.1 o_16.2.2.1 o_16.2.2.2.1 o_16.2.2.2.2 v3_0 f7 f4 f5 f11 (by grind [zu_at, zu_atL]) (by grind [zu_at, zu_atL]) (by grind [zu_at, zu_atL]) (by grind [zu_at, zu_atL]) (by grind [zu_at, zu_atL]) (by grind [zu_at, zu_atL])) (fun o_43 ho_43 => ?_)
      exact hj_20 _ (by grind [zu_at, zu_atL])
    refine zw_if (fun c10 => ?_) (fun c10 => ?_)
    · refine zw_zb0 (sf_X5_readCast v0_1 v0_2 v0_3 v1_2 o_16.1 o_16.2.1 o_16.2.2.1 o_16.2.2.2.1 o_16.2.2.2.2 f4 f5 v2_5 (by grind [zu_at, zu_atL]) (by grind [zu_at, zu_atL]) (by grind [zu_at, zu_atL]) (by grind [zu_at, zu_atL]) (by grind [zu_at, zu_atL])) (fun o_48 ho_48 => ?_)
      exact hj_20 _ (by grind [zu_at, zu_atL])
    refine zw_if (fun c11 => ?_) (fun c11 => ?_)
    · refine zw_zb0 (sf_X5_readBox v0_1 v0_2 v0_3 v1_2 o_16.1 o_16.2.1 o_16.2.2.1 o_16.2.2.2.1 o_16.2.2.2.2 v2_0 f6 v3_0 v3_1 f7 f4 f5 f12 f13 f14 f15 f11 f16 f17 (by grind [zu_at, zu_atL]) (by grind [zu_at, zu_atL]) (by grind [zu_at, zu_atL]) (by grind [zu_at, zu_atL]) (by grind [zu_at, zu_atL]) (by grind [zu_at, zu_atL]) (by grind [zu_at, zu_atL])) (fun o_53 ho_53 => ?_)
      exact hj_20 _ (by grind [zu_at, zu_atL])
    refine zw_if (fun c12 => ?_) (fun c12 => ?_)
    · refine zw_zb0 (sf_X5_readLet v0_1 v0_2 v0_3 v1_2 o_16.1 o_16.2.1 o_16.2.2.1 o_16.2.2.2.1 o_16.2.2.2.2 v2_0 f6 v3_0 v3_1 f7 f4 f5 f12 f13 f14 f15 f11 f16 f17 (by grind [zu_at, zu_atL]) (by grind [zu_at, zu_atL]) (by grind [zu_at, zu_atL]) (by grind [zu_at, zu_atL]) (by grind [zu_at, zu_atL]) (by grind [zu_at, zu_atL]) (by grind [zu_at, zu_atL])) (fun o_58 ho_58 => ?_)
      exact hj_20 _ (by grind [zu_at, zu_atL])
    refine zw_if (fun c13 => ?_) (fun c13 => ?_)
    · refine zw_zb0 (sf_X5_readAnswer v0_1 v0_2 v0_3 v1_2 o_16.1 o_16.2.1 o_16.2.2.1 o_16.2.2.2.1 o_16.2.2.2.2 v3_0 f7 f4 f5 f11 (by grind [zu_at, zu_atL]) (by grind [zu_at, zu_atL]) (by grind [zu_at, zu_atL]) (by grind [zu_at, zu_atL]) (by grind [zu_at, zu_atL]) (by grind [zu_at, zu_atL])) (fun o_63 ho_63 => ?_)
      exact hj_20 _ (by grind [zu_at, zu_atL])
    refine zw_if (fun c14 => ?_) (fun c14 => ?_)
    · refine zw_zb0 (sf_X5_readAnswer v0_1 v0_2 v0_3 v1_2 o_16.1 o_16.2.1 o_16.2.2.1 o_16.2.2.2.1 o_16.2.2.2.2 v3_0 f7 f4 f5 f11 (by grind [zu_at, zu_atL]) (by grind [zu_at, zu_atL]) (by grind [zu_at, zu_atL]) (by grind [zu_at, zu_atL]) (by grind [zu_at, zu_atL]) (by grind [zu_at, zu_atL])) (fun o_68 ho_68 => ?_)
      exact hj_20 _ (by grind [zu_at, zu_atL])
    refine zw_if (fun c15 => ?_) (fun c15 => ?_)
    · refine zw_zb0 (sf_X5_readFixed v0_1 v0_2 v0_3 v2_0 v1_2 o_16.1 o_16.2.1 o_16.2.2.1 o_16.2.2.2.1 o_16.2.2.2.2 v3_0 f7 f4 f5 f6 f15 (by grind [zu_at, zu_atL]) (by grind [zu_at, zu_atL]) (by grind [zu_at, zu_atL]) (by grind [zu_at, zu_atL]) (by grind [zu_at, zu_atL]) (by grind [zu_at, zu_atL]) (by grind [zu_at, zu_atL])) (fun o_73 ho_73 => ?_)
      exact hj_20 _ (by grind [zu_at, zu_atL])
    refine zw_if (fun c16 => ?_) (fun c16 => ?_)
    · refine zw_zb0 (sf_X5_readGroup v0_1 v0_2 v0_3 v1_2 o_16.1 o_16.2.1 o_16.2.2.1 o_16.2.2.2.1 o_16.2.2.2.2 v3_0 f7 f4 f5 f16 (by grind [zu_at, zu_atL]) (by grind [zu_at, zu_atL]) (by grind [zu_at, zu_atL]) (by grind [zu_at, zu_atL]) (by grind [zu_at, zu_atL]) (by grind [zu_at, zu_atL])) (fun o_78 ho_78 => ?_)
      exact hj_20 _ (by grind [zu_at, zu_atL])
    refine zw_zb0 (sf_X5_readAnswer v0_1 v0_2 v0_3 v1_2 o_16.1 o_16.2.1 o_16.2.2.1 o_16.2.2.2.1 o_16.2.2.2.2 v3_0 f7 f4 f5 f11 (by grind [zu_at, zu_atL]) (by grind [zu_at, zu_atL]) (by grind [zu_at, zu_atL]) (by grind [zu_at, zu_atL]) (by grind [zu_at, zu_atL]) (by grind [zu_at, zu_atL])) (fun o_82 ho_82 => ?_)
    exact hj_20 _ (by grind [zu_at, zu_atL])
  refine zw_zb0 (sf_X5_stopAt 4 v1_5) (fun o_86 ho_86 => ?_)
  refine zw_some ?_
  first | trivial | (try dsimp only); grind [zu_at, zu_atL]
set_option maxHeartbeats 1000000 in
theorem sf_X5_read (p2 : Int32) (v0_1 : Int32) (f4 : Nat → Int32) (f5 : Nat → Int32) (f6 : Nat → Int32) (f7 : Nat → Int32) (f8 : Nat → Int32) (f9 : Nat → Int32) (f10 : Nat → Int32) (f11 : Nat → Int32) (f12 : Nat → Int32) (f13 : Nat → Int32) (f14 : Nat → Int32) (f15 : Nat → Int32) (f16 : Nat → Int32) (f17 : Nat → Int32) : zw (fn_X5_read p2 v0_1 f4 f5 f6 f7 f8 f9 f10 f11 f12 f13 f14 f15 f16 f17) (fun r => 0 ≤ r.1 ∧ r.1 ≤ 1 ∧ 0 ≤ r.2.2.2.2.1 ∧ r.2.2.2.2.1 ≤ 4 ∧ 0 ≤ r.2.2.2.2.2.2.1 ∧ r.2.2.2.2.2.2.1 ≤ 14 ∧ 0 ≤ r.2.2.2.2.2.2.2.2.1 ∧ r.2.2.2.2.2.2.2.2.1 ≤ 1200 ∧ 0 ≤ r.2.2.2.2.2.2.2.2.2.1 ∧ r.2.2.2.2.2.2.2.2.2.1 ≤ 1200 ∧ 0 ≤ r.2.2.2.2.2.2.2.2.2.2.1 ∧ r.2.2.2.2.2.2.2.2.2.2.1 ≤ 5 ∧ 0 ≤ r.2.2.2.2.2.2.2.2.2.2.2.1 ∧ r.2.2.2.2.2.2.2.2.2.2.2.1 ≤ 1200 ∧ (-1) ≤ r.2.2.2.2.2.2.2.2.2.2.2.2.2.1 ∧ r.2.2.2.2.2.2.2.2.2.2.2.2.2.1 ≤ 12 ∧ r.1 ≤ r.2.2.2.2.1 ∧ r.1 ≤ r.2.2.2.2.2.2.1 ∧ (r.1 = 0 → r.1 ≤ r.2.2.2.2.2.2.2.2.2.2.1 ∧ r.1 ≤ r.2.2.2.2.2.2.2.2.2.2.2.1 ∧ r.1 ≤ r.2.2.2.2.2.2.2.2.2.2.2.2.2.1 + 1 ∧ r.1 ≤ r.2.2.2.2.2.2.2.2.1 ∧ r.1 ≤ r.2.2.2.2.2.2.2.2.2.1) ∧ (¬ r.1 = 0 → 1 ≤ r.1 ∧ 1 ≤ r.2.2.2.2.1 ∧ 1 ≤ r.2.2.2.2.2.2.1 ∧ r.2.2.2.2.2.2.2.2.2.2.1 ≤ 0 ∧ r.2.2.2.2.2.2.2.2.2.2.1 < r.1 ∧ r.2.2.2.2.2.2.2.2.2.2.1 ≤ r.2.2.2.2.2.2.2.2.2.2.2.1 ∧ r.2.2.2.2.2.2.2.2.2.2.1 ≤ r.2.2.2.2.2.2.2.2.2.2.2.2.2.1 + 1 ∧ r.2.2.2.2.2.2.2.2.2.2.1 < r.2.2.2.2.1 ∧ r.2.2.2.2.2.2.2.2.2.2.1 < r.2.2.2.2.2.2.1 ∧ r.2.2.2.2.2.2.2.2.2.2.1 ≤ r.2.2.2.2.2.2.2.2.1 ∧ r.2.2.2.2.2.2.2.2.2.2.2.1 ≤ r.2.2.2.2.2.2.2.2.2.1 ∧ r.2.2.2.2.2.2.2.2.2.2.2.2.2.1 ≤ 11 ∧ r.2.2.2.2.2.2.2.2.2.2.2.2.2.1 ≤ r.1 + 10 ∧ r.2.2.2.2.2.2.2.2.2.2.2.2.2.1 ≤ r.2.2.2.2.2.2.2.2.2.2.1 + 11 ∧ r.2.2.2.2.1 ≤ r.1 + 3 ∧ r.2.2.2.2.2.2.1 ≤ r.1 + 13) ∧ (r.1 = 1 → 1 ≤ r.2.2.2.2.1 ∧ 1 ≤ r.2.2.2.2.2.2.1 ∧ r.2.2.2.2.2.2.2.2.2.2.1 ≤ 0 ∧ r.2.2.2.2.2.2.2.2.2.2.1 < r.1 ∧ r.2.2.2.2.2.2.2.2.2.2.1 ≤ r.2.2.2.2.2.2.2.2.2.2.2.1 ∧ r.2.2.2.2.2.2.2.2.2.2.1 ≤ r.2.2.2.2.2.2.2.2.2.2.2.2.2.1 + 1 ∧ r.2.2.2.2.2.2.2.2.2.2.1 < r.2.2.2.2.1 ∧ r.2.2.2.2.2.2.2.2.2.2.1 < r.2.2.2.2.2.2.1 ∧ r.2.2.2.2.2.2.2.2.2.2.1 ≤ r.2.2.2.2.2.2.2.2.1 ∧ r.2.2.2.2.2.2.2.2.2.2.2.1 ≤ r.2.2.2.2.2.2.2.2.2.1 ∧ r.2.2.2.2.2.2.2.2.2.2.2.2.2.1 ≤ 11 ∧ r.2.2.2.2.2.2.2.2.2.2.2.2.2.1 ≤ r.1 + 10 ∧ r.2.2.2.2.2.2.2.2.2.2.2.2.2.1 ≤ r.2.2.2.2.2.2.2.2.2.2.1 + 11 ∧ r.2.2.2.2.1 ≤ r.1 + 3 ∧ r.2.2.2.2.2.2.1 ≤ r.1 + 13) ∧ (¬ r.1 = 1 → r.1 ≤ 0 ∧ r.1 ≤ r.2.2.2.2.2.2.2.2.2.2.1 ∧ r.1 ≤ r.2.2.2.2.2.2.2.2.2.2.2.1 ∧ r.1 ≤ r.2.2.2.2.2.2.2.2.2.2.2.2.2.1 + 1 ∧ r.1 ≤ r.2.2.2.2.2.2.2.2.1 ∧ r.1 ≤ r.2.2.2.2.2.2.2.2.2.1)) := by
  unfold fn_X5_read
  refine zw_zb0 (sf_X9_clear) (fun o_1 ho_1 => ?_)
  refine zw_zb0 (sf_X10_open p2 f4 f5) (fun o_5 ho_5 => ?_)
  refine zw_zl32 (fun s_9 => 0 ≤ s_9.2.2.2.2.1 ∧ 0 ≤ s_9.2.2.2.2.2.2.2.1 ∧ (-1) ≤ s_9.2.2.2.2.2.2.2.2.2.2.1 ∧ 0 ≤ s_9.2.2.2.2.2.2.2.2.2.2.2.1 ∧ o_1.1 ≤ s_9.2.2.2.2.1 ∧ o_1.1 ≤ s_9.2.2.2.2.2.2.2.1 ∧ o_1.1 ≤ s_9.2.2.2.2.2.2.2.2.2.2.1 + 1 ∧ o_1.1 ≤ s_9.2.2.2.2.2.2.2.2.2.2.2.1 ∧ o_1.2.1 ≤ s_9.2.2.2.2.1 + 1 ∧ o_1.2.1 ≤ s_9.2.2.2.2.2.2.2.1 + 1 ∧ o_1.2.1 ≤ s_9.2.2.2.2.2.2.2.2.2.2.1 + 2 ∧ o_1.2.1 ≤ s_9.2.2.2.2.2.2.2.2.2.2.2.1 + 1 ∧ o_1.2.2.1 ≤ s_9.2.2.2.2.1 ∧ o_1.2.2.1 ≤ s_9.2.2.2.2.2.2.2.1 ∧ o_1.2.2.1 ≤ s_9.2.2.2.2.2.2.2.2.2.2.1 + 1 ∧ o_1.2.2.1 ≤ s_9.2.2.2.2.2.2.2.2.2.2.2.1 ∧ o_1.2.2.2 ≤ s_9.2.2.2.2.1 ∧ o_1.2.2.2 ≤ s_9.2.2.2.2.2.2.2.1 ∧ o_1.2.2.2 ≤ s_9.2.2.2.2.2.2.2.2.2.2.1 + 1 ∧ o_1.2.2.2 ≤ s_9.2.2.2.2.2.2.2.2.2.2.2.1 ∧ o_5.2.1 ≤ s_9.2.2.2.2.2.2.1 ∧ o_5.2.2.2.1 ≤ s_9.2.2.2.2.2.2.2.2.1 ∧ s_9.1 ≤ 40 ∧ s_9.2.2.2.2.1 ≤ 4 ∧ s_9.2.2.2.2.1 ≤ o_1.1 + 4 ∧ s_9.2.2.2.2.1 ≤ o_1.2.1 + 3 ∧ s_9.2.2.2.2.1 ≤ o_1.2.2.1 + 4 ∧ s_9.2.2.2.2.1 ≤ o_1.2.2.2 + 4 ∧ s_9.2.2.2.2.1 ≤ s_9.1 ∧ s_9.2.2.2.2.2.2.1 ≤ 1200 ∧ s_9.2.2.2.2.2.2.2.1 ≤ 5 ∧ s_9.2.2.2.2.2.2.2.1 ≤ o_1.1 + 5 ∧ s_9.2.2.2.2.2.2.2.1 ≤ o_1.2.1 + 4 ∧ s_9.2.2.2.2.2.2.2.1 ≤ o_1.2.2.1 + 5 ∧ s_9.2.2.2.2.2.2.2.1 ≤ o_1.2.2.2 + 5 ∧ s_9.2.2.2.2.2.2.2.1 ≤ o_5.1 + 4 ∧ s_9.2.2.2.2.2.2.2.2.1 ≤ s_9.2.2.2.2.2.2.1 ∧ s_9.2.2.2.2.2.2.2.2.2.2.1 ≤ 12 ∧ s_9.2.2.2.2.2.2.2.2.2.2.1 ≤ o_1.1 + 12 ∧ s_9.2.2.2.2.2.2.2.2.2.2.1 ≤ o_1.2.1 + 11 ∧ s_9.2.2.2.2.2.2.2.2.2.2.1 ≤ o_1.2.2.1 + 12 ∧ s_9.2.2.2.2.2.2.2.2.2.2.1 ≤ o_1.2.2.2 + 12 ∧ s_9.2.2.2.2.2.2.2.2.2.2.1 ≤ s_9.2.2.2.2.2.2.2.1 + 11 ∧ s_9.2.2.2.2.2.2.2.2.2.2.2.1 ≤ 14 ∧ s_9.2.2.2.2.2.2.2.2.2.2.2.1 ≤ o_1.1 + 14 ∧ s_9.2.2.2.2.2.2.2.2.2.2.2.1 ≤ o_1.2.1 + 13 ∧ s_9.2.2.2.2.2.2.2.2.2.2.2.1 ≤ o_1.2.2.1 + 14 ∧ s_9.2.2.2.2.2.2.2.2.2.2.2.1 ≤ o_1.2.2.2 + 14 ∧ s_9.2.2.2.2.2.2.2.2.2.2.2.1 ≤ s_9.1) (fun s_9 => 40 - s_9.1) (by (try dsimp only); grind [zu_at, zu_atL]) (by (try dsimp only); grind [zu_at, zu_atL]) (fun s_9 back_9 Hback_9 hback_9 => ?_)
  refine zw_zj (fun _ => s_9.2.2.2.2.2.2.2.1 ≤ 0 ∧ s_9.2.2.2.2.2.2.2.1 ≤ o_1.1 ∧ s_9.2.2.2.2.2.2.2.1 < o_1.2.1 ∧ s_9.2.2.2.2.2.2.2.1 ≤ o_1.2.2.1 ∧ s_9.2.2.2.2.2.2.2.1 ≤ o_1.2.2.2 ∧ s_9.2.2.2.2.2.2.2.1 ≤ o_5.1 ∧ s_9.2.2.2.2.2.2.2.1 ≤ o_5.2.2.1 ∧ s_9.2.2.2.2.2.2.2.1 ≤ o_5.2.2.2.1 ∧ s_9.2.2.2.2.2.2.2.1 ≤ o_5.2.2.2.2.2 + 1 ∧ s_9.2.2.2.2.2.2.2.1 ≤ s_9.2.2.2.2.1 ∧ s_9.2.2.2.2.2.2.2.1 ≤ s_9.2.2.2.2.2.2.2.2.2.2.1 + 1 ∧ s_9.2.2.2.2.2.2.2.1 ≤ s_9.2.2.2.2.2.2.2.2.2.2.2.1 ∧ s_9.2.2.2.2.2.2.2.2.2.2.1 ≤ 11 ∧ s_9.2.2.2.2.2.2.2.2.2.2.1 ≤ o_1.1 + 11 ∧ s_9.2.2.2.2.2.2.2.2.2.2.1 ≤ o_1.2.1 + 10 ∧ s_9.2.2.2.2.2.2.2.2.2.2.1 ≤ o_1.2.2.1 + 11 ∧ s_9.2.2.2.2.2.2.2.2.2.2.1 ≤ o_1.2.2.2 + 11) (fun s_10 Hj_10 => ?_) (fun j_10 hj_10 => ?_)
  · refine zw_zj (fun s_11 => 0 ≤ s_11 ∧ o_1.1 ≤ s_11 ∧ o_1.2.1 ≤ s_11 + 1 ∧ o_1.2.2.1 ≤ s_11 ∧ o_1.2.2.2 ≤ s_11 ∧ s_11 ≤ 1 ∧ s_11 ≤ o_1.1 + 1 ∧ s_11 ≤ o_1.2.1 ∧ s_11 ≤ o_1.2.2.1 + 1 ∧ s_11 ≤ o_1.2.2.2 + 1 ∧ s_11 ≤ s_9.2.2.2.2.1 ∧ s_11 ≤ s_9.2.2.2.2.2.2.2.1 + 1 ∧ s_11 ≤ s_9.2.2.2.2.2.2.2.2.2.2.2.1 ∧ s_9.2.2.2.2.2.2.2.1 ≤ s_11) (fun s_11 Hj_11 => ?_) (fun j_11 hj_11 => ?_)
    · refine zw_if (fun c1 => ?_) (fun c1 => ?_)
      · refine zw_zb0 (sf_X5_stopAt 4 p2) (fun o_13 ho_13 => ?_)
        refine zw_if (fun c2 => ?_) (fun c2 => ?_)
        · refine zw_some ?_
          first | trivial | (try dsimp only); grind [zu_at, zu_atL]
        refine zw_some ?_
        first | trivial | (try dsimp only); grind [zu_at, zu_atL]
      refine zw_some ?_
      first | trivial | (try dsimp only); grind [zu_at, zu_atL]
    refine zw_zj (fun _ => True) (fun s_18 Hj_18 => ?_) (fun j_18 hj_18 => ?_)
    · exact hj_11 _ (by grind [zu_at, zu_atL])
    refine zw_if (fun c3 => ?_) (fun c3 => ?_)
    · exact hj_18 _ (by grind [zu_at, zu_atL])
    refine zw_if (fun c4 => ?_) (fun c4 => ?_)
    · exact hj_18 _ (by grind [zu_at, zu_atL])
    exact hj_11 _ (by grind [zu_at, zu_atL])
  refine zw_if (fun c5 => ?_) (fun c5 => ?_)
  · exact hj_10 _ (by grind [zu_at, zu_atL])
  refine zw_if (fun c6 => ?_) (fun c6 => ?_)
  · exact hj_10 _ (by grind [zu_at, zu_atL])
  refine zw_zb0 (sf_X5_readStatement s_9.1 s_9.2.1 s_9.2.2.1 s_9.2.2.2.1 o_5.1 s_9.2.2.2.2.2.2.1 s_9.2.2.2.2.2.2.2.1 s_9.2.2.2.2.2.2.2.2.1 s_9.2.2.2.2.2.2.2.2.2.1 s_9.2.2.2.2.2.2.2.2.2.2.1 s_9.2.2.2.2.1 s_9.2.2.2.2.2.1 s_9.2.2.2.2.2.2.2.2.2.2.2.1 s_9.2.2.2.2.2.2.2.2.2.2.2.2.1 f4 f5 s_9.2.2.2.2.2.2.2.2.2.2.2.2.2.1 s_9.2.2.2.2.2.2.2.2.2.2.2.2.2.2.2.2.2.1 s_9.2.2.2.2.2.2.2.2.2.2.2.2.2.2.1 s_9.2.2.2.2.2.2.2.2.2.2.2.2.2.2.2.1 s_9.2.2.2.2.2.2.2.2.2.2.2.2.2.2.2.2.1 s_9.2.2.2.2.2.2.2.2.2.2.2.2.2.2.2.2.2.2.2.2.1 s_9.2.2.2.2.2.2.2.2.2.2.2.2.2.2.2.2.2.2.2.2.2.2.2.1 s_9.2.2.2.2.2.2.2.2.2.2.2.2.2.2.2.2.2.2.2.2.2.2.2.2 s_9.2.2.2.2.2.2.2.2.2.2.2.2.2.2.2.2.2.2.1 s_9.2.2.2.2.2.2.2.2.2.2.2.2.2.2.2.2.2.2.2.1 s_9.2.2.2.2.2.2.2.2.2.2.2.2.2.2.2.2.2.2.2.2.2.2.1 s_9.2.2.2.2.2.2.2.2.2.2.2.2.2.2.2.2.2.2.2.2.2.1 (by grind [zu_at, zu_atL]) (by grind [zu_at, zu_atL]) (by grind [zu_at, zu_atL]) (by grind [zu_at, zu_atL]) (by grind [zu_at, zu_atL]) (by grind [zu_at, zu_atL]) (by grind [zu_at, zu_atL])) (fun o_23 ho_23 => ?_)
  refine zw_if (fun c7 => ?_) (fun c7 => ?_)
  · refine zw_some ?_
    first | trivial | (try dsimp only); grind [zu_at, zu_atL]
  exact hback_9 _ (by grind [zu_at, zu_atL]) (by grind [zu_at, zu_atL]) (by grind [zu_at, zu_atL])
set_option maxHeartbeats 1000000 in
theorem sf_X6_held (j0 : Int64) : zw (fn_X6_held j0) (fun r => (-2000000000) ≤ r ∧ r ≤ 2000000000) := by
  unfold fn_X6_held
  refine zw_zn (fun x_1 ex_1 => ?_)
  refine zw_some ?_
  first | trivial | (try dsimp only); grind [zu_at, zu_atL]
set_option maxHeartbeats 1000000 in
theorem sf_X6_isWide (p1 : Int32) (f1 : Nat → Int32) (h_f1 : (∀ i : Nat, 0 ≤ f1 i ∧ f1 i ≤ 1)) : zw (fn_X6_isWide p1 f1) (fun r => 0 ≤ r ∧ r ≤ 1 ∧ (¬ r = 0 → (f1 p1.toNatClampNeg) ≤ 1 ∧ (f1 p1.toNatClampNeg) ≤ p1 + 1 ∧ (f1 p1.toNatClampNeg) ≤ r ∧ 1 ≤ (f1 p1.toNatClampNeg) ∧ 0 ≤ p1 ∧ 1 ≤ r ∧ p1 ≤ (f1 p1.toNatClampNeg) + 12 ∧ p1 ≤ 13 ∧ p1 ≤ r + 12 ∧ r ≤ (f1 p1.toNatClampNeg) ∧ r ≤ p1 + 1) ∧ (r = 1 → (f1 p1.toNatClampNeg) ≤ 1 ∧ (f1 p1.toNatClampNeg) ≤ p1 + 1 ∧ (f1 p1.toNatClampNeg) ≤ r ∧ 1 ≤ (f1 p1.toNatClampNeg) ∧ 0 ≤ p1 ∧ p1 ≤ (f1 p1.toNatClampNeg) + 12 ∧ p1 ≤ 13 ∧ p1 ≤ r + 12 ∧ r ≤ (f1 p1.toNatClampNeg) ∧ r ≤ p1 + 1) ∧ (¬ r = 1 → r ≤ 0)) := by
  unfold fn_X6_isWide
  refine zw_if (fun c1 => ?_) (fun c1 => ?_)
  · refine zw_some ?_
    first | trivial | (try dsimp only); grind [zu_at, zu_atL]
  refine zw_if (fun c2 => ?_) (fun c2 => ?_)
  · refine zw_some ?_
    first | trivial | (try dsimp only); grind [zu_at, zu_atL]
  refine zw_zg32 14 (by decide) (by grind [zu_at, zu_atL]) ?_
  refine zw_if (fun c3 => ?_) (fun c3 => ?_)
  · refine zw_some ?_
    first | trivial | (try dsimp only); grind [zu_at, zu_atL]
  refine zw_some ?_
  first | trivial | (try dsimp only); grind [zu_at, zu_atL]
set_option maxHeartbeats 1000000 in
theorem sf_X6_fill (p2 : Int32) (p3 : Int32) (v1_0 : Int32) (f2 : Nat → Int32) (f3 : Nat → Int32) (f4 : Nat → Int32) (f5 : Nat → Int64) (f6 : Nat → Int64) (f7 : Nat → Int32) (h_v1_0 : 0 ≤ v1_0 ∧ v1_0 ≤ 14) (h_f7 : (∀ i : Nat, 0 ≤ f7 i ∧ f7 i ≤ 1)) : zw (fn_X6_fill p2 p3 v1_0 f2 f3 f4 f5 f6 f7) (fun r => (∀ i : Nat, 0 ≤ r.2.2 i ∧ r.2.2 i ≤ 1)) := by
  unfold fn_X6_fill
  refine zw_zl32 (fun s_1 => (∀ i : Nat, 0 ≤ s_1.2.2.2 i ∧ s_1.2.2.2 i ≤ 1) ∧ 0 ≤ s_1.1 ∧ s_1.1 ≤ v1_0) (fun s_1 => 14 - s_1.1) (by (try dsimp only); grind [zu_at, zu_atL]) (by (try dsimp only); grind [zu_at, zu_atL]) (fun s_1 back_1 Hback_1 hback_1 => ?_)
  refine zw_if (fun c1 => ?_) (fun c1 => ?_)
  · refine zw_some ?_
    first | trivial | (try dsimp only); grind [zu_at, zu_atL]
  refine zw_zj (fun s_3 => True) (fun s_3 Hj_3 => ?_) (fun j_3 hj_3 => ?_)
  · refine zw_zb0 (sf_X6_lowest s_1.1 v1_0 f2 f3 f4 s_1.2.1 s_1.2.2.1 (by grind [zu_at, zu_atL]) (by grind [zu_at, zu_atL])) (fun o_4 ho_4 => ?_)
    refine zw_zb0 (sf_X6_held (o_4 - s_3)) (fun o_8 ho_8 => ?_)
    refine zw_zg32 14 (by decide) (by grind [zu_at, zu_atL]) ?_
    refine zw_zb0 (sf_X6_highest s_1.1 v1_0 f2 f3 f4 s_1.2.2.1 (vp_updL s_1.2.1 s_1.1.toNatClampNeg o_8) (by grind [zu_at, zu_atL]) (by grind [zu_at, zu_atL])) (fun o_13 ho_13 => ?_)
    refine zw_zb0 (sf_X6_held (o_13 + s_3)) (fun o_17 ho_17 => ?_)
    refine zw_zb0 (sf_X6_amountOf s_1.1 (vp_updL s_1.2.1 s_1.1.toNatClampNeg o_8) (vp_updL s_1.2.2.1 s_1.1.toNatClampNeg o_17) (by grind [zu_at, zu_atL])) (fun o_21 ho_21 => ?_)
    refine zw_if (fun c2 => ?_) (fun c2 => ?_)
    · exact hback_1 _ (by grind [zu_at, zu_atL]) (by grind [zu_at, zu_atL]) (by grind [zu_at, zu_atL])
    refine zw_zb0 (sf_X4_madeOf s_1.1 0 v1_0 f3 (by grind [zu_at, zu_atL])) (fun o_26 ho_26 => ?_)
    refine zw_zb0 (sf_X6_isWide o_26 s_1.2.2.2 (by grind [zu_at, zu_atL])) (fun o_30 ho_30 => ?_)
    refine zw_if (fun c3 => ?_) (fun c3 => ?_)
    · refine zw_zb0 (sf_X4_madeOf s_1.1 1 v1_0 f3 (by grind [zu_at, zu_atL])) (fun o_35 ho_35 => ?_)
      refine zw_zb0 (sf_X6_isWide o_35 s_1.2.2.2 (by grind [zu_at, zu_atL])) (fun o_39 ho_39 => ?_)
      refine zw_if (fun c4 => ?_) (fun c4 => ?_)
      · exact hback_1 _ (by grind [zu_at, zu_atL]) (by grind [zu_at, zu_atL]) (by grind [zu_at, zu_atL])
      exact hback_1 _ (by grind [zu_at, zu_atL]) (by grind [zu_at, zu_atL]) (by grind [zu_at, zu_atL])
    exact hback_1 _ (by grind [zu_at, zu_atL]) (by grind [zu_at, zu_atL]) (by grind [zu_at, zu_atL])
  refine zw_if (fun c5 => ?_) (fun c5 => ?_)
  · exact hj_3 _ (by grind [zu_at, zu_atL])
  exact hj_3 _ (by grind [zu_at, zu_atL])
set_option maxHeartbeats 1000000 in
theorem sf_X8_whatOf (p2 : Int32) (p3 : Int32) (v1_0 : Int32) (f2 : Nat → Int32) (f3 : Nat → Int32) (f4 : Nat → Int64) (h_p2 : 0 ≤ p2 ∧ p2 ≤ 13) (h_v1_0 : 0 ≤ v1_0 ∧ v1_0 ≤ 14) : zw (fn_X8_whatOf p2 p3 v1_0 f2 f3 f4) (fun r => (¬ r = 0 → ((2 * p2) + p3) ≤ (2 * p2) + 1 ∧ (2 * p2) ≤ ((2 * p2) + p3) ∧ (2 * p2) ≤ 26 ∧ 0 ≤ (2 * p2) ∧ 0 ≤ p3 ∧ p2 < v1_0 ∧ p3 ≤ ((2 * p2) + p3) ∧ p3 ≤ 1)) := by
  unfold fn_X8_whatOf
  refine zw_zb0 (sf_X4_madeOf p2 p3 v1_0 f2 (by grind [zu_at, zu_atL])) (fun o_1 ho_1 => ?_)
  refine zw_if (fun c1 => ?_) (fun c1 => ?_)
  · refine zw_zb0 (sf_X4_amountOf p2 p3 v1_0 f3 (by grind [zu_at, zu_atL])) (fun o_6 ho_6 => ?_)
    refine zw_some ?_
    first | trivial | (try dsimp only); grind [zu_at, zu_atL]
  refine zw_if (fun c2 => ?_) (fun c2 => ?_)
  · refine zw_zb0 (sf_X4_amountOf p2 p3 v1_0 f3 (by grind [zu_at, zu_atL])) (fun o_11 ho_11 => ?_)
    refine zw_some ?_
    first | trivial | (try dsimp only); grind [zu_at, zu_atL]
  refine zw_zg32 14 (by decide) (by grind [zu_at, zu_atL]) ?_
  refine zw_some ?_
  first | trivial | (try dsimp only); grind [zu_at, zu_atL]
set_option maxHeartbeats 1000000 in
theorem sf_X8_sample (p3 : Int32) (v1_0 : Int32) (v2_0 : Int32) (f4 : Nat → Int32) (f5 : Nat → Int32) (f6 : Nat → Int32) (f7 : Nat → Int32) (f8 : Nat → Int32) (f9 : Nat → Int32) (f10 : Nat → Int64) (f11 : Nat → Int64) (h_v1_0 : 0 ≤ v1_0 ∧ v1_0 ≤ 4) (h_v2_0 : 0 ≤ v2_0 ∧ v2_0 ≤ 14) (h_f4 : (∀ i : Nat, 0 ≤ f4 i ∧ f4 i ≤ 13)) : zw (fn_X8_sample p3 v1_0 v2_0 f4 f5 f6 f7 f8 f9 f10 f11) (fun r => True) := by
  unfold fn_X8_sample
  refine zw_zl32 (fun s_1 => 0 ≤ s_1.2.1 ∧ s_1.2.1 ≤ v2_0) (fun s_1 => 14 - s_1.2.1) (by (try dsimp only); grind [zu_at, zu_atL]) (by (try dsimp only); grind [zu_at, zu_atL]) (fun s_1 back_1 Hback_1 hback_1 => ?_)
  refine zw_if (fun c1 => ?_) (fun c1 => ?_)
  · refine zw_some ?_
    first | trivial | (try dsimp only); grind [zu_at, zu_atL]
  refine zw_zb0 (sf_X9_formatOf s_1.2.1 v2_0 f4 f5 (by grind [zu_at, zu_atL]) (by grind [zu_at, zu_atL])) (fun o_3 ho_3 => ?_)
  refine zw_zb0 (sf_X9_stepOf o_3 v1_0 f6 (by grind [zu_at, zu_atL])) (fun o_7 ho_7 => ?_)
  refine zw_zg32 14 (by decide) (by grind [zu_at, zu_atL]) ?_
  refine zw_if (fun c2 => ?_) (fun c2 => ?_)
  · refine zw_zn (fun x_45 ex_45 => ?_)
    refine zw_zb0 (sf_X4_amountOf s_1.2.1 0 v2_0 f9 (by grind [zu_at, zu_atL])) (fun o_46 ho_46 => ?_)
    refine zw_zb0 (sf_X4_amountOf s_1.2.1 1 v2_0 f9 (by grind [zu_at, zu_atL])) (fun o_50 ho_50 => ?_)
    refine zw_zn (fun x_54 ex_54 => ?_)
    refine zw_zb0 (sf_X11_nearest ((vp_updL s_1.2.2.1 s_1.2.1.toNatClampNeg x_54) s_1.2.1.toNatClampNeg) (1 : Int64) o_7.toInt64) (fun o_55 ho_55 => ?_)
    exact hback_1 _ (by grind [zu_at, zu_atL]) (by grind [zu_at, zu_atL]) (by grind [zu_at, zu_atL])
  refine zw_zb0 (sf_X8_whatOf s_1.2.1 0 v2_0 f8 f9 s_1.2.2.1 (by grind [zu_at, zu_atL]) (by grind [zu_at, zu_atL])) (fun o_13 ho_13 => ?_)
  refine zw_zb0 (sf_X8_whatOf s_1.2.1 1 v2_0 f8 f9 s_1.2.2.1 (by grind [zu_at, zu_atL]) (by grind [zu_at, zu_atL])) (fun o_17 ho_17 => ?_)
  refine zw_zb0 (sf_X11_apply (f7 s_1.2.1.toNatClampNeg) o_13 o_17 (1 : Int64)) (fun o_21 ho_21 => ?_)
  refine zw_zb0 (sf_X8_whatOf s_1.2.1 0 v2_0 f8 f9 s_1.2.2.2 (by grind [zu_at, zu_atL]) (by grind [zu_at, zu_atL])) (fun o_25 ho_25 => ?_)
  refine zw_zb0 (sf_X11_nearest o_25 (1 : Int64) o_7.toInt64) (fun o_29 ho_29 => ?_)
  refine zw_zb0 (sf_X8_whatOf s_1.2.1 1 v2_0 f8 f9 s_1.2.2.2 (by grind [zu_at, zu_atL]) (by grind [zu_at, zu_atL])) (fun o_33 ho_33 => ?_)
  refine zw_zb0 (sf_X11_nearest o_33 (1 : Int64) o_7.toInt64) (fun o_37 ho_37 => ?_)
  refine zw_zb0 (sf_X11_apply (f7 s_1.2.1.toNatClampNeg) o_29 o_37 o_7.toInt64) (fun o_41 ho_41 => ?_)
  exact hback_1 _ (by grind [zu_at, zu_atL]) (by grind [zu_at, zu_atL]) (by grind [zu_at, zu_atL])
set_option maxHeartbeats 1000000 in
theorem sf_X9_settle (v2_0 : Int32) (f3 : Nat → Int32) (f4 : Nat → Int32) (f5 : Nat → Int32) (f6 : Nat → Int32) (f7 : Nat → Int32) (f9 : Nat → Int32) (f10 : Nat → Int32) (f11 : Nat → Int32) (f12 : Nat → Int64) (f13 : Nat → Int64) (f14 : Nat → Int32) (h_v2_0 : 0 ≤ v2_0 ∧ v2_0 ≤ 14) (h_f4 : (∀ i : Nat, 0 ≤ f4 i ∧ f4 i ≤ 13)) (h_f14 : (∀ i : Nat, 0 ≤ f14 i ∧ f14 i ≤ 1)) : zw (fn_X9_settle v2_0 f3 f4 f5 f6 f7 f9 f10 f11 f12 f13 f14) (fun r => 0 ≤ r.1 ∧ r.1 ≤ 14 ∧ 0 ≤ r.2.1 ∧ r.2.1 ≤ 14 ∧ 0 ≤ r.2.2.1 ∧ r.2.2.1 ≤ 1 ∧ (∀ i : Nat, 0 ≤ r.2.2.2.1 i ∧ r.2.2.2.1 i ≤ 13) ∧ (∀ i : Nat, 0 ≤ r.2.2.2.2.2.2.2.2 i ∧ r.2.2.2.2.2.2.2.2 i ≤ 1) ∧ r.1 ≤ v2_0 ∧ r.2.1 ≤ r.1 ∧ r.2.2.1 ≤ v2_0) := by
  unfold fn_X9_settle
  refine zw_zb0 (sf_X2_gather v2_0 f3 f4 f5 f6 f7 (by grind [zu_at, zu_atL]) (by grind [zu_at, zu_atL])) (fun o_1 ho_1 => ?_)
  refine zw_zb0 (sf_X6_fill (-1) 0 v2_0 f9 f10 f11 f12 f13 f14 (by grind [zu_at, zu_atL]) (by grind [zu_at, zu_atL])) (fun o_5 ho_5 => ?_)
  refine zw_some ?_
  first | trivial | (try dsimp only); grind [zu_at, zu_atL]
set_option maxHeartbeats 1000000 in
theorem sf_X9_isInput (p1 : Int32) (v1_0 : Int32) (f2 : Nat → Int32) (h_v1_0 : 0 ≤ v1_0 ∧ v1_0 ≤ 14) : zw (fn_X9_isInput p1 v1_0 f2) (fun r => 0 ≤ r ∧ r ≤ 1 ∧ r ≤ v1_0 ∧ (¬ r = 0 → (f2 p1.toNatClampNeg) ≤ 0 ∧ (f2 p1.toNatClampNeg) ≤ p1 ∧ (f2 p1.toNatClampNeg) < r ∧ 0 ≤ (f2 p1.toNatClampNeg) ∧ 0 ≤ p1 ∧ 1 ≤ r ∧ p1 < v1_0 ∧ r ≤ (f2 p1.toNatClampNeg) + 1 ∧ r ≤ p1 + 1 ∧ v1_0 ≤ (f2 p1.toNatClampNeg) + 14 ∧ v1_0 ≤ r + 13) ∧ (r = 1 → (f2 p1.toNatClampNeg) ≤ 0 ∧ (f2 p1.toNatClampNeg) ≤ p1 ∧ (f2 p1.toNatClampNeg) < r ∧ 0 ≤ (f2 p1.toNatClampNeg) ∧ 0 ≤ p1 ∧ p1 < v1_0 ∧ r ≤ (f2 p1.toNatClampNeg) + 1 ∧ r ≤ p1 + 1 ∧ v1_0 ≤ (f2 p1.toNatClampNeg) + 14 ∧ v1_0 ≤ r + 13) ∧ (¬ r = 1 → r ≤ 0)) := by
  unfold fn_X9_isInput
  refine zw_zb0 (sf_X9_hasNumber p1 v1_0 (by grind [zu_at, zu_atL])) (fun o_1 ho_1 => ?_)
  refine zw_if (fun c1 => ?_) (fun c1 => ?_)
  · refine zw_some ?_
    first | trivial | (try dsimp only); grind [zu_at, zu_atL]
  refine zw_zg32 14 (by decide) (by grind [zu_at, zu_atL]) ?_
  refine zw_if (fun c2 => ?_) (fun c2 => ?_)
  · refine zw_some ?_
    first | trivial | (try dsimp only); grind [zu_at, zu_atL]
  refine zw_some ?_
  first | trivial | (try dsimp only); grind [zu_at, zu_atL]
set_option maxHeartbeats 1000000 in
theorem sf_X9_isFree (p1 : Int32) (v1_0 : Int32) (v2_0 : Int32) (f3 : Nat → Int32) (f4 : Nat → Int32) (h_v1_0 : 0 ≤ v1_0 ∧ v1_0 ≤ 14) (h_v2_0 : 0 ≤ v2_0 ∧ v2_0 ≤ 14) (h_f3 : (∀ i : Nat, 0 ≤ f3 i ∧ f3 i ≤ 13)) : zw (fn_X9_isFree p1 v1_0 v2_0 f3 f4) (fun r => 0 ≤ r ∧ r ≤ 1 ∧ r ≤ v1_0 ∧ r ≤ v2_0 ∧ (¬ r = 0 → (f3 p1.toNatClampNeg) < v2_0 ∧ (f4 (f3 p1.toNatClampNeg).toNatClampNeg) < (f3 p1.toNatClampNeg) ∧ (f4 (f3 p1.toNatClampNeg).toNatClampNeg) ≤ (-1) ∧ (f4 (f3 p1.toNatClampNeg).toNatClampNeg) < p1 ∧ (f4 (f3 p1.toNatClampNeg).toNatClampNeg) + 2 ≤ r ∧ 0 ≤ (f3 p1.toNatClampNeg) ∧ (-1) ≤ (f4 (f3 p1.toNatClampNeg).toNatClampNeg) ∧ 0 ≤ p1 ∧ 1 ≤ r ∧ p1 < v1_0 ∧ r ≤ (f3 p1.toNatClampNeg) + 1 ∧ r ≤ (f4 (f3 p1.toNatClampNeg).toNatClampNeg) + 2 ∧ r ≤ p1 + 1 ∧ v1_0 ≤ (f4 (f3 p1.toNatClampNeg).toNatClampNeg) + 15 ∧ v1_0 ≤ r + 13 ∧ v2_0 ≤ (f4 (f3 p1.toNatClampNeg).toNatClampNeg) + 15 ∧ v2_0 ≤ r + 13) ∧ (r = 1 → (f3 p1.toNatClampNeg) < v2_0 ∧ (f4 (f3 p1.toNatClampNeg).toNatClampNeg) < (f3 p1.toNatClampNeg) ∧ (f4 (f3 p1.toNatClampNeg).toNatClampNeg) ≤ (-1) ∧ (f4 (f3 p1.toNatClampNeg).toNatClampNeg) < p1 ∧ (f4 (f3 p1.toNatClampNeg).toNatClampNeg) + 2 ≤ r ∧ 0 ≤ (f3 p1.toNatClampNeg) ∧ (-1) ≤ (f4 (f3 p1.toNatClampNeg).toNatClampNeg) ∧ 0 ≤ p1 ∧ p1 < v1_0 ∧ r ≤ (f3 p1.toNatClampNeg) + 1 ∧ r ≤ (f4 (f3 p1.toNatClampNeg).toNatClampNeg) + 2 ∧ r ≤ p1 + 1 ∧ v1_0 ≤ (f4 (f3 p1.toNatClampNeg).toNatClampNeg) + 15 ∧ v1_0 ≤ r + 13 ∧ v2_0 ≤ (f4 (f3 p1.toNatClampNeg).toNatClampNeg) + 15 ∧ v2_0 ≤ r + 13) ∧ (¬ r = 1 → r ≤ 0)) := by
  unfold fn_X9_isFree
  refine zw_zb0 (sf_X9_hasNumber p1 v1_0 (by grind [zu_at, zu_atL])) (fun o_1 ho_1 => ?_)
  refine zw_if (fun c1 => ?_) (fun c1 => ?_)
  · refine zw_some ?_
    first | trivial | (try dsimp only); grind [zu_at, zu_atL]
  refine zw_zg32 14 (by decide) (by grind [zu_at, zu_atL]) ?_
  refine zw_zb0 (sf_X2_isFree (f3 p1.toNatClampNeg) v2_0 f4 (by grind [zu_at, zu_atL])) (fun o_7 ho_7 => ?_)
  refine zw_if (fun c2 => ?_) (fun c2 => ?_)
  · refine zw_some ?_
    first | trivial | (try dsimp only); grind [zu_at, zu_atL]
  refine zw_some ?_
  first | trivial | (try dsimp only); grind [zu_at, zu_atL]
set_option maxHeartbeats 1000000 in
theorem sf_X11_putBytes (p1 : Int32) (v0_1 : Int32) (f1 : Nat → Int32) (h_v0_1 : 0 ≤ v0_1 ∧ v0_1 ≤ 1200) : zw (fn_X11_putBytes p1 v0_1 f1) (fun r => 0 ≤ r.1 ∧ r.1 ≤ 1200 ∧ v0_1 ≤ r.1) := by
  unfold fn_X11_putBytes
  refine zw_zl32 (fun s_1 => (-8) ≤ s_1.1 ∧ s_1.1 ≤ 24 ∧ s_1.2.1 ≤ 1200 ∧ v0_1 ≤ s_1.2.1) (fun s_1 => s_1.1 - (-8)) (by (try dsimp only); grind [zu_at, zu_atL]) (by (try dsimp only); grind [zu_at, zu_atL]) (fun s_1 back_1 Hback_1 hback_1 => ?_)
  refine zw_if (fun c1 => ?_) (fun c1 => ?_)
  · refine zw_some ?_
    first | trivial | (try dsimp only); grind [zu_at, zu_atL]
  refine zw_if (fun c2 => ?_) (fun c2 => ?_)
  · exact hback_1 _ (by grind [zu_at, zu_atL]) (by grind [zu_at, zu_atL]) (by grind [zu_at, zu_atL])
  refine zw_zg32 1200 (by decide) (by grind [zu_at, zu_atL]) ?_
  refine zw_zn (fun g_5 eg_5 => ?_)
  exact hback_1 _ (by grind [zu_at, zu_atL]) (by grind [zu_at, zu_atL]) (by grind [zu_at, zu_atL])
set_option maxHeartbeats 1000000 in
theorem sf_X11_refuse (p1 : Int32) (f1 : Nat → Int32) : zw (fn_X11_refuse p1 f1) (fun r => (-1) ≤ r.1 ∧ r.1 ≤ (-1)) := by
  unfold fn_X11_refuse
  refine zw_if (fun c1 => ?_) (fun c1 => ?_)
  · refine zw_some ?_
    first | trivial | (try dsimp only); grind [zu_at, zu_atL]
  refine zw_if (fun c2 => ?_) (fun c2 => ?_)
  · refine zw_some ?_
    first | trivial | (try dsimp only); grind [zu_at, zu_atL]
  refine zw_zg32 5 (by decide) (by grind [zu_at, zu_atL]) ?_
  refine zw_some ?_
  first | trivial | (try dsimp only); grind [zu_at, zu_atL]
set_option maxHeartbeats 1000000 in
theorem sf_X11_feed (p1 : Int32) (p2 : Int32) (p3 : Int32) (p4 : Int32) (p5 : Int32) (v0_1 : Int32) (f1 : Nat → Int32) (f2 : Nat → Int32) (h_v0_1 : 0 ≤ v0_1 ∧ v0_1 ≤ 1200) : zw (fn_X11_feed p1 p2 p3 p4 p5 v0_1 f1 f2) (fun r => 0 ≤ r.2.1 ∧ r.2.1 ≤ 1200 ∧ (-1) ≤ r.1 ∧ r.1 ≤ r.2.1 ∧ v0_1 ≤ r.2.1 ∧ (r.1 = (-1) → 1181 ≤ r.2.1 ∧ 1181 ≤ v0_1 ∧ r.2.1 ≤ v0_1) ∧ (¬ r.1 = (-1) → r.2.1 ≤ r.1 ∧ v0_1 ≤ 1180 ∧ v0_1 ≤ r.1)) := by
  unfold fn_X11_feed
  refine zw_if (fun c1 => ?_) (fun c1 => ?_)
  · refine zw_zb0 (sf_X11_putBytes p1 v0_1 f1 (by grind [zu_at, zu_atL])) (fun o_2 ho_2 => ?_)
    refine zw_zb0 (sf_X11_putBytes p2 o_2.1 o_2.2 (by grind [zu_at, zu_atL])) (fun o_6 ho_6 => ?_)
    refine zw_zb0 (sf_X11_putBytes p3 o_6.1 o_6.2 (by grind [zu_at, zu_atL])) (fun o_10 ho_10 => ?_)
    refine zw_zb0 (sf_X11_putBytes p4 o_10.1 o_10.2 (by grind [zu_at, zu_atL])) (fun o_14 ho_14 => ?_)
    refine zw_zb0 (sf_X11_putBytes p5 o_14.1 o_14.2 (by grind [zu_at, zu_atL])) (fun o_18 ho_18 => ?_)
    refine zw_some ?_
    first | trivial | (try dsimp only); grind [zu_at, zu_atL]
  refine zw_zb0 (sf_X11_refuse 0 f2) (fun o_22 ho_22 => ?_)
  refine zw_some ?_
  first | trivial | (try dsimp only); grind [zu_at, zu_atL]
set_option maxHeartbeats 1000000 in
theorem sf_X11_end (p1 : Int32) (v0_1 : Int32) (f1 : Nat → Int32) (h_v0_1 : 0 ≤ v0_1 ∧ v0_1 ≤ 1200) : zw (fn_X11_end p1 v0_1 f1) (fun r => 0 ≤ r.1 ∧ r.1 ≤ 1 ∧ 0 ≤ r.2.1 ∧ r.2.1 ≤ 1200 ∧ r.2.1 ≤ v0_1 ∧ (r.1 = 0 → r.1 ≤ r.2.1 ∧ r.1 ≤ v0_1 ∧ v0_1 ≤ r.2.1) ∧ (¬ r.1 = 0 → 0 ≤ p1 ∧ 1 ≤ r.1 ∧ p1 ≤ r.2.1 ∧ p1 ≤ v0_1 ∧ r.1 ≤ p1 + 1 ∧ r.2.1 ≤ p1) ∧ (r.1 = 1 → 0 ≤ p1 ∧ p1 ≤ r.2.1 ∧ p1 ≤ v0_1 ∧ r.1 ≤ p1 + 1 ∧ r.2.1 ≤ p1) ∧ (¬ r.1 = 1 → r.1 ≤ 0 ∧ r.1 ≤ r.2.1 ∧ r.1 ≤ v0_1 ∧ v0_1 ≤ r.2.1)) := by
  unfold fn_X11_end
  refine zw_if (fun c1 => ?_) (fun c1 => ?_)
  · refine zw_zb0 (sf_X11_refuse 0 f1) (fun o_2 ho_2 => ?_)
    refine zw_some ?_
    first | trivial | (try dsimp only); grind [zu_at, zu_atL]
  refine zw_if (fun c2 => ?_) (fun c2 => ?_)
  · refine zw_some ?_
    first | trivial | (try dsimp only); grind [zu_at, zu_atL]
  refine zw_zb0 (sf_X11_refuse 0 f1) (fun o_7 ho_7 => ?_)
  refine zw_some ?_
  first | trivial | (try dsimp only); grind [zu_at, zu_atL]
