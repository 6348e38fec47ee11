set_option maxHeartbeats 1000000 in
theorem sf_X12_readsStatement (p1 : Int32) (v0_5 : Int32) (v0_6 : Int32) (v0_7 : Int32) (v0_8 : Int32) (v0_9 : Int32) (v0_11 : Int32) (w0_28 : Int64) (f1 : Nat → Int32) (f2 : Nat → Int32) (f3 : Nat → Int32) (f4 : Nat → Int32) (f5 : Nat → Int32) (f6 : Nat → Int32) (f7 : Nat → Int32) (f8 : Nat → Int32) (f9 : Nat → Int32) (f10 : Nat → Int32) (f11 : Nat → Int32) (f12 : Nat → Int32) (f13 : Nat → Int32) (f14 : Nat → Int32) (f15 : Nat → Int32) (f16 : Nat → Int32) (f17 : Nat → Int64) (f18 : Nat → Int64) (h_p1 : 0 ≤ p1 ∧ p1 ≤ 40) (h_v0_5 : 0 ≤ v0_5 ∧ v0_5 ≤ 1200) (h_v0_6 : 0 ≤ v0_6 ∧ v0_6 ≤ 1200) (h_v0_7 : 0 ≤ v0_7 ∧ v0_7 ≤ 1200) (h_v0_8 : 0 ≤ v0_8 ∧ v0_8 ≤ 4) (h_v0_11 : 0 ≤ v0_11 ∧ v0_11 ≤ 1) (h_f1 : (∀ i : Nat, 0 ≤ f1 i ∧ f1 i ≤ 255)) (h_f3 : (∀ i : Nat, 0 ≤ f3 i ∧ f3 i ≤ 4)) (h_f4 : (∀ i : Nat, 0 ≤ f4 i ∧ f4 i ≤ 14)) (h_f13 : (∀ i : Nat, (-1) ≤ f13 i ∧ f13 i ≤ 13)) (h_f14 : (∀ i : Nat, (-1) ≤ f14 i ∧ f14 i ≤ 13)) (h_f15 : (∀ i : Nat, (-1) ≤ f15 i ∧ f15 i ≤ 3)) (h_f16 : (∀ i : Nat, 0 ≤ f16 i ∧ f16 i ≤ 13)) (hx_0 : (∀ k : Nat, k < 71 → f2 k = zTab k)) : zw (fn_X12_readsStatement p1 v0_5 v0_6 v0_7 v0_8 v0_9 v0_11 w0_28 f1 f2 f3 f4 f5 f6 f7 f8 f9 f10 f11 f12 f13 f14 f15 f16 f17 f18) (fun r => 0 ≤ r.2.1 ∧ r.2.1 ≤ 1200 ∧ 0 ≤ r.2.2.1 ∧ r.2.2.1 ≤ 1200 ∧ 0 ≤ r.2.2.2.1 ∧ r.2.2.2.1 ≤ 4 ∧ (∀ i : Nat, 0 ≤ r.2.2.2.2.2.1 i ∧ r.2.2.2.2.2.1 i ≤ 4) ∧ (∀ i : Nat, 0 ≤ r.2.2.2.2.2.2.1 i ∧ r.2.2.2.2.2.2.1 i ≤ 14) ∧ (∀ i : Nat, (-1) ≤ r.2.2.2.2.2.2.2.2.2.2.2.2.2.2.2.1 i ∧ r.2.2.2.2.2.2.2.2.2.2.2.2.2.2.2.1 i ≤ 13) ∧ (∀ i : Nat, (-1) ≤ r.2.2.2.2.2.2.2.2.2.2.2.2.2.2.2.2.1 i ∧ r.2.2.2.2.2.2.2.2.2.2.2.2.2.2.2.2.1 i ≤ 13) ∧ (∀ i : Nat, (-1) ≤ r.2.2.2.2.2.2.2.2.2.2.2.2.2.2.2.2.2.1 i ∧ r.2.2.2.2.2.2.2.2.2.2.2.2.2.2.2.2.2.1 i ≤ 3) ∧ (∀ i : Nat, 0 ≤ r.2.2.2.2.2.2.2.2.2.2.2.2.2.2.2.2.2.2.1 i ∧ r.2.2.2.2.2.2.2.2.2.2.2.2.2.2.2.2.2.2.1 i ≤ 13) ∧ v0_6 ≤ r.2.1 ∧ v0_8 ≤ r.2.2.2.1) := by
  unfold fn_X12_readsStatement
  refine zw_zb0 (sf_X12_word v0_5 v0_6 v0_7 v0_8 v0_9 f1 (by grind [zu_at, zu_atL]) (by grind [zu_at, zu_atL]) (by grind [zu_at, zu_atL]) (by grind [zu_at, zu_atL]) (by grind [zu_at, zu_atL])) (fun o_1 ho_1 => ?_)
  refine zw_zb0 (sf_X12_goesWell o_1.2.2.1 (by grind [zu_at, zu_atL])) (fun o_5 ho_5 => ?_)
  refine zw_zj (fun s_9 => (-1) ≤ s_9 ∧ o_1.2.2.1 ≤ s_9 + 5 ∧ o_5 ≤ s_9 + 1 ∧ s_9 ≤ (-1) ∧ s_9 < o_1.2.1 ∧ s_9 + 2 ≤ o_1.2.2.1 ∧ s_9 < o_5 ∧ s_9 < p1 ∧ s_9 < v0_11 ∧ s_9 < v0_5 ∧ s_9 < v0_6 ∧ s_9 < v0_7 ∧ s_9 < v0_8 ∧ v0_11 ≤ s_9 + 2) (fun s_9 Hj_9 => ?_) (fun j_9 hj_9 => ?_)
  · refine zw_zb0 (sf_X12_goesWell o_1.2.2.1 (by grind [zu_at, zu_atL])) (fun o_10 ho_10 => ?_)
    refine zw_zj (fun s_14 => 1 ≤ s_14.1 ∧ o_1.2.2.1 ≤ s_14.1 ∧ o_1.2.2.2 ≤ s_14.2 ∧ o_10 < s_14.1 ∧ o_5 < s_14.1 ∧ s_14.1 ≤ 4 ∧ s_14.1 ≤ o_1.2.2.1 ∧ s_14.1 ≤ o_10 + 4 ∧ s_14.1 ≤ o_5 + 4 ∧ s_14.1 ≤ s_9 + 5 ∧ s_14.2 ≤ o_1.2.2.2 ∧ s_9 + 2 ≤ s_14.1 ∧ v0_8 ≤ s_14.1) (fun s_14 Hj_14 => ?_) (fun j_14 hj_14 => ?_)
    · refine zw_zj (fun s_15 => 0 ≤ s_15 ∧ o_10 ≤ s_15 ∧ o_5 ≤ s_15 ∧ s_15 ≤ 1 ∧ s_15 ≤ o_10 + 1 ∧ s_15 ≤ o_5 + 1 ∧ s_15 ≤ p1 ∧ s_15 ≤ s_9 + 2 ∧ s_9 < s_15) (fun s_15 Hj_15 => ?_) (fun j_15 hj_15 => ?_)
      · refine zw_zb0 (sf_X12_goesWell s_14.1 (by grind [zu_at, zu_atL])) (fun o_16 ho_16 => ?_)
        refine zw_zj (fun s_20 => 1 ≤ s_20.1 ∧ o_1.2.2.1 ≤ s_20.1 ∧ o_1.2.2.2 ≤ s_20.2 ∧ o_10 < s_20.1 ∧ o_16 < s_20.1 ∧ o_5 < s_20.1 ∧ s_14.1 ≤ s_20.1 ∧ s_14.2 ≤ s_20.2 ∧ s_20.1 ≤ 4 ∧ s_20.1 ≤ o_1.2.2.1 ∧ s_20.1 ≤ o_10 + 4 ∧ s_20.1 ≤ o_16 + 4 ∧ s_20.1 ≤ o_5 + 4 ∧ s_20.1 ≤ s_14.1 ∧ s_20.1 ≤ s_9 + 5 ∧ s_20.2 ≤ o_1.2.2.2 ∧ s_20.2 ≤ s_14.2 ∧ s_9 + 2 ≤ s_20.1 ∧ v0_8 ≤ s_20.1) (fun s_20 Hj_20 => ?_) (fun j_20 hj_20 => ?_)
        · refine zw_zb0 (sf_X12_goesWell s_20.1 (by grind [zu_at, zu_atL])) (fun o_21 ho_21 => ?_)
          refine zw_if (fun c1 => ?_) (fun c1 => ?_)
          · refine zw_some ?_
            first | trivial | (try dsimp only); grind [zu_at, zu_atL]
          refine zw_if (fun c2 => ?_) (fun c2 => ?_)
          · refine zw_zb0 (sf_X12_readsFormat v0_5 o_1.1 o_1.2.1 s_20.1 s_20.2 v0_11 f1 f2 f3 f5 f4 f6 f7 f8 f9 (by grind [zu_at, zu_atL]) (by grind [zu_at, zu_atL]) (by grind [zu_at, zu_atL]) (by grind [zu_at, zu_atL]) (by grind [zu_at, zu_atL]) (by grind [zu_at, zu_atL]) (by grind [zu_at, zu_atL]) (by grind [zu_at, zu_atL]) (by grind [zu_at, zu_atL])) (fun o_27 ho_27 => ?_)
            refine zw_zb0 (sf_X12_mark 59 v0_5 o_27.1 o_27.2.2.1 o_27.2.2.2.1 f1 (by grind [zu_at, zu_atL]) (by grind [zu_at, zu_atL]) (by grind [zu_at, zu_atL]) (by grind [zu_at, zu_atL]) (by grind [zu_at, zu_atL])) (fun o_31 ho_31 => ?_)
            refine zw_some ?_
            first | trivial | (try dsimp only); grind [zu_at, zu_atL]
          refine zw_if (fun c3 => ?_) (fun c3 => ?_)
          · refine zw_zb0 (sf_X12_readsAnswer v0_5 o_1.1 o_1.2.1 s_20.1 s_20.2 v0_11 f1 f2 f4 f6 f10 (by grind [zu_at, zu_atL]) (by grind [zu_at, zu_atL]) (by grind [zu_at, zu_atL]) (by grind [zu_at, zu_atL]) (by grind [zu_at, zu_atL]) (by grind [zu_at, zu_atL]) (by grind [zu_at, zu_atL]) (by grind [zu_at, zu_atL])) (fun o_36 ho_36 => ?_)
            refine zw_zb0 (sf_X12_mark 59 v0_5 o_36.1 o_36.2.2.1 o_36.2.2.2.1 f1 (by grind [zu_at, zu_atL]) (by grind [zu_at, zu_atL]) (by grind [zu_at, zu_atL]) (by grind [zu_at, zu_atL]) (by grind [zu_at, zu_atL])) (fun o_40 ho_40 => ?_)
            refine zw_some ?_
            first | trivial | (try dsimp only); grind [zu_at, zu_atL]
          refine zw_if (fun c4 => ?_) (fun c4 => ?_)
          · refine zw_zb0 (sf_X12_readsAnswer v0_5 o_1.1 o_1.2.1 s_20.1 s_20.2 v0_11 f1 f2 f4 f6 f10 (by grind [zu_at, zu_atL]) (by grind [zu_at, zu_atL]) (by grind [zu_at, zu_atL]) (by grind [zu_at, zu_atL]) (by grind [zu_at, zu_atL]) (by grind [zu_at, zu_atL]) (by grind [zu_at, zu_atL]) (by grind [zu_at, zu_atL])) (fun o_45 ho_45 => ?_)
            refine zw_zb0 (sf_X12_mark 59 v0_5 o_45.1 o_45.2.2.1 o_45.2.2.2.1 f1 (by grind [zu_at, zu_atL]) (by grind [zu_at, zu_atL]) (by grind [zu_at, zu_atL]) (by grind [zu_at, zu_atL]) (by grind [zu_at, zu_atL])) (fun o_49 ho_49 => ?_)
            refine zw_some ?_
            first | trivial | (try dsimp only); grind [zu_at, zu_atL]
          refine zw_if (fun c5 => ?_) (fun c5 => ?_)
          · refine zw_zb0 (sf_X12_readsAnswer v0_5 o_1.1 o_1.2.1 s_20.1 s_20.2 v0_11 f1 f2 f4 f6 f10 (by grind [zu_at, zu_atL]) (by grind [zu_at, zu_atL]) (by grind [zu_at, zu_atL]) (by grind [zu_at, zu_atL]) (by grind [zu_at, zu_atL]) (by grind [zu_at, zu_atL]) (by grind [zu_at, zu_atL]) (by grind [zu_at, zu_atL])) (fun o_54 ho_54 => ?_)
            refine zw_zb0 (sf_X12_mark 59 v0_5 o_54.1 o_54.2.2.1 o_54.2.2.2.1 f1 (by grind [zu_at, zu_atL]) (by grind [zu_at, zu_atL]) (by grind [zu_at, zu_atL]) (by grind [zu_at, zu_atL]) (by grind [zu_at, zu_atL])) (fun o_58 ho_58 => ?_)
            refine zw_some ?_
            first | trivial | (try dsimp only); grind [zu_at, zu_atL]
          refine zw_if (fun c6 => ?_) (fun c6 => ?_)
          · refine zw_zb0 (sf_X12_number (0 : Int64) (999 : Int64) v0_5 o_1.1 o_1.2.1 s_20.1 s_20.2 f1 (by grind [zu_at, zu_atL]) (by grind [zu_at, zu_atL]) (by grind [zu_at, zu_atL]) (by grind [zu_at, zu_atL]) (by grind [zu_at, zu_atL])) (fun o_63 ho_63 => ?_)
            refine zw_zb0 (sf_X12_goesWell o_63.2.2.2.1 (by grind [zu_at, zu_atL])) (fun o_67 ho_67 => ?_)
            refine zw_if (fun c7 => ?_) (fun c7 => ?_)
            · refine zw_zg32 2 (by decide) (by grind [zu_at, zu_atL]) ?_
              refine zw_zb0 (sf_X12_mark 59 v0_5 o_63.2.1 o_63.2.2.2.1 o_63.2.2.2.2 f1 (by grind [zu_at, zu_atL]) (by grind [zu_at, zu_atL]) (by grind [zu_at, zu_atL]) (by grind [zu_at, zu_atL]) (by grind [zu_at, zu_atL])) (fun o_73 ho_73 => ?_)
              refine zw_some ?_
              first | trivial | (try dsimp only); grind [zu_at, zu_atL]
            refine zw_zg32 2 (by decide) (by grind [zu_at, zu_atL]) ?_
            refine zw_zb0 (sf_X12_mark 59 v0_5 o_63.2.1 o_63.2.2.2.1 o_63.2.2.2.2 f1 (by grind [zu_at, zu_atL]) (by grind [zu_at, zu_atL]) (by grind [zu_at, zu_atL]) (by grind [zu_at, zu_atL]) (by grind [zu_at, zu_atL])) (fun o_78 ho_78 => ?_)
            refine zw_some ?_
            first | trivial | (try dsimp only); grind [zu_at, zu_atL]
          refine zw_if (fun c8 => ?_) (fun c8 => ?_)
          · refine zw_zb0 (sf_X12_readsInput v0_5 o_1.1 o_1.2.1 s_20.1 s_20.2 v0_11 f1 f2 f3 f5 f4 f6 f12 f13 f14 f15 f10 f16 f17 f18 (by grind [zu_at, zu_atL]) (by grind [zu_at, zu_atL]) (by grind [zu_at, zu_atL]) (by grind [zu_at, zu_atL]) (by grind [zu_at, zu_atL]) (by grind [zu_at, zu_atL]) (by grind [zu_at, zu_atL]) (by grind [zu_at, zu_atL]) (by grind [zu_at, zu_atL]) (by grind [zu_at, zu_atL]) (by grind [zu_at, zu_atL]) (by grind [zu_at, zu_atL]) (by grind [zu_at, zu_atL]) (by grind [zu_at, zu_atL])) (fun o_83 ho_83 => ?_)
            refine zw_zb0 (sf_X12_mark 59 v0_5 o_83.1 o_83.2.2.1 o_83.2.2.2.1 f1 (by grind [zu_at, zu_atL]) (by grind [zu_at, zu_atL]) (by grind [zu_at, zu_atL]) (by grind [zu_at, zu_atL]) (by grind [zu_at, zu_atL])) (fun o_87 ho_87 => ?_)
            refine zw_some ?_
            first | trivial | (try dsimp only); grind [zu_at, zu_atL]
          refine zw_if (fun c9 => ?_) (fun c9 => ?_)
          · refine zw_zb0 (sf_X12_readsLet v0_5 o_1.1 o_1.2.1 s_20.1 s_20.2 v0_11 f1 f2 f3 f5 f4 f6 f12 f13 f14 f15 f10 f16 f17 f18 (by grind [zu_at, zu_atL]) (by grind [zu_at, zu_atL]) (by grind [zu_at, zu_atL]) (by grind [zu_at, zu_atL]) (by grind [zu_at, zu_atL]) (by grind [zu_at, zu_atL]) (by grind [zu_at, zu_atL]) (by grind [zu_at, zu_atL]) (by grind [zu_at, zu_atL]) (by grind [zu_at, zu_atL]) (by grind [zu_at, zu_atL]) (by grind [zu_at, zu_atL]) (by grind [zu_at, zu_atL]) (by grind [zu_at, zu_atL])) (fun o_92 ho_92 => ?_)
            refine zw_zb0 (sf_X12_mark 59 v0_5 o_92.2.1 o_92.2.2.2.1 o_92.2.2.2.2.1 f1 (by grind [zu_at, zu_atL]) (by grind [zu_at, zu_atL]) (by grind [zu_at, zu_atL]) (by grind [zu_at, zu_atL]) (by grind [zu_at, zu_atL])) (fun o_96 ho_96 => ?_)
            refine zw_some ?_
            first | trivial | (try dsimp only); grind [zu_at, zu_atL]
          refine zw_if (fun c10 => ?_) (fun c10 => ?_)
          · refine zw_zb0 (sf_X12_readsAnswer v0_5 o_1.1 o_1.2.1 s_20.1 s_20.2 v0_11 f1 f2 f4 f6 f10 (by grind [zu_at, zu_atL]) (by grind [zu_at, zu_atL]) (by grind [zu_at, zu_atL]) (by grind [zu_at, zu_atL]) (by grind [zu_at, zu_atL]) (by grind [zu_at, zu_atL]) (by grind [zu_at, zu_atL]) (by grind [zu_at, zu_atL])) (fun o_101 ho_101 => ?_)
            refine zw_zb0 (sf_X12_mark 59 v0_5 o_101.1 o_101.2.2.1 o_101.2.2.2.1 f1 (by grind [zu_at, zu_atL]) (by grind [zu_at, zu_atL]) (by grind [zu_at, zu_atL]) (by grind [zu_at, zu_atL]) (by grind [zu_at, zu_atL])) (fun o_105 ho_105 => ?_)
            refine zw_some ?_
            first | trivial | (try dsimp only); grind [zu_at, zu_atL]
          refine zw_if (fun c11 => ?_) (fun c11 => ?_)
          · refine zw_zb0 (sf_X12_readsAnswer v0_5 o_1.1 o_1.2.1 s_20.1 s_20.2 v0_11 f1 f2 f4 f6 f10 (by grind [zu_at, zu_atL]) (by grind [zu_at, zu_atL]) (by grind [zu_at, zu_atL]) (by grind [zu_at, zu_atL]) (by grind [zu_at, zu_atL]) (by grind [zu_at, zu_atL]) (by grind [zu_at, zu_atL]) (by grind [zu_at, zu_atL])) (fun o_110 ho_110 => ?_)
            refine zw_zb0 (sf_X12_mark 59 v0_5 o_110.1 o_110.2.2.1 o_110.2.2.2.1 f1 (by grind [zu_at, zu_atL]) (by grind [zu_at, zu_atL]) (by grind [zu_at, zu_atL]) (by grind [zu_at, zu_atL]) (by grind [zu_at, zu_atL])) (fun o_114 ho_114 => ?_)
            refine zw_some ?_
            first | trivial | (try dsimp only); grind [zu_at, zu_atL]
          refine zw_if (fun c12 => ?_) (fun c12 => ?_)
          · refine zw_zb0 (sf_X12_readsFixed v0_5 o_1.1 o_1.2.1 s_20.1 s_20.2 v0_11 f1 f2 f4 f6 f3 f5 f15 (by grind [zu_at, zu_atL]) (by grind [zu_at, zu_atL]) (by grind [zu_at, zu_atL]) (by grind [zu_at, zu_atL]) (by grind [zu_at, zu_atL]) (by grind [zu_at, zu_atL]) (by grind [zu_at, zu_atL]) (by grind [zu_at, zu_atL]) (by grind [zu_at, zu_atL]) (by grind [zu_at, zu_atL])) (fun o_119 ho_119 => ?_)
            refine zw_zb0 (sf_X12_mark 59 v0_5 o_119.1 o_119.2.2.1 o_119.2.2.2.1 f1 (by grind [zu_at, zu_atL]) (by grind [zu_at, zu_atL]) (by grind [zu_at, zu_atL]) (by grind [zu_at, zu_atL]) (by grind [zu_at, zu_atL])) (fun o_123 ho_123 => ?_)
            refine zw_some ?_
            first | trivial | (try dsimp only); grind [zu_at, zu_atL]
          refine zw_if (fun c13 => ?_) (fun c13 => ?_)
          · refine zw_zb0 (sf_X12_readsGroup v0_5 o_1.1 o_1.2.1 s_20.1 s_20.2 v0_11 f1 f2 f4 f6 f16 (by grind [zu_at, zu_atL]) (by grind [zu_at, zu_atL]) (by grind [zu_at, zu_atL]) (by grind [zu_at, zu_atL]) (by grind [zu_at, zu_atL]) (by grind [zu_at, zu_atL]) (by grind [zu_at, zu_atL]) (by grind [zu_at, zu_atL]) (by grind [zu_at, zu_atL])) (fun o_128 ho_128 => ?_)
            refine zw_zb0 (sf_X12_mark 59 v0_5 o_128.1 o_128.2.2.1 o_128.2.2.2.1 f1 (by grind [zu_at, zu_atL]) (by grind [zu_at, zu_atL]) (by grind [zu_at, zu_atL]) (by grind [zu_at, zu_atL]) (by grind [zu_at, zu_atL])) (fun o_132 ho_132 => ?_)
            refine zw_some ?_
            first | trivial | (try dsimp only); grind [zu_at, zu_atL]
          refine zw_zb0 (sf_X12_readsAnswer v0_5 o_1.1 o_1.2.1 s_20.1 s_20.2 v0_11 f1 f2 f4 f6 f10 (by grind [zu_at, zu_atL]) (by grind [zu_at, zu_atL]) (by grind [zu_at, zu_atL]) (by grind [zu_at, zu_atL]) (by grind [zu_at, zu_atL]) (by grind [zu_at, zu_atL]) (by grind [zu_at, zu_atL]) (by grind [zu_at, zu_atL])) (fun o_136 ho_136 => ?_)
          refine zw_zb0 (sf_X12_mark 59 v0_5 o_136.1 o_136.2.2.1 o_136.2.2.2.1 f1 (by grind [zu_at, zu_atL]) (by grind [zu_at, zu_atL]) (by grind [zu_at, zu_atL]) (by grind [zu_at, zu_atL]) (by grind [zu_at, zu_atL])) (fun o_140 ho_140 => ?_)
          refine zw_some ?_
          first | trivial | (try dsimp only); grind [zu_at, zu_atL]
        refine zw_if (fun c14 => ?_) (fun c14 => ?_)
        · exact hj_20 _ (by grind [zu_at, zu_atL])
        refine zw_if (fun c15 => ?_) (fun c15 => ?_)
        · exact hj_20 _ (by grind [zu_at, zu_atL])
        refine zw_zb0 (sf_X12_faults 4 o_1.2.1 s_14.1 s_14.2 (by grind [zu_at, zu_atL]) (by grind [zu_at, zu_atL])) (fun o_146 ho_146 => ?_)
        exact hj_20 _ (by grind [zu_at, zu_atL])
      refine zw_zj (fun _ => 40 ≤ p1) (fun s_150 Hj_150 => ?_) (fun j_150 hj_150 => ?_)
      · exact hj_15 _ (by grind [zu_at, zu_atL])
      refine zw_if (fun c16 => ?_) (fun c16 => ?_)
      · exact hj_150 _ (by grind [zu_at, zu_atL])
      refine zw_zj (fun _ => True) (fun s_152 Hj_152 => ?_) (fun j_152 hj_152 => ?_)
      · refine zw_zj (fun _ => 5 ≤ s_9 ∧ o_1.2.2.1 + 5 ≤ s_9 ∧ o_10 + 4 ≤ s_9 ∧ o_5 + 4 ≤ s_9 ∧ s_9 ≤ 6 ∧ s_9 ≤ o_1.2.2.1 + 6 ∧ s_9 ≤ o_10 + 5 ∧ s_9 ≤ o_5 + 5 ∧ s_9 ≤ v0_8 + 6 ∧ v0_8 + 5 ≤ s_9) (fun s_153 Hj_153 => ?_) (fun j_153 hj_153 => ?_)
        · refine zw_zg32 2 (by decide) (by grind [zu_at, zu_atL]) ?_
          refine zw_if (fun c17 => ?_) (fun c17 => ?_)
          · exact hj_150 _ (by grind [zu_at, zu_atL])
          exact hj_15 _ (by grind [zu_at, zu_atL])
        refine zw_if (fun c18 => ?_) (fun c18 => ?_)
        · exact hj_153 _ (by grind [zu_at, zu_atL])
        refine zw_if (fun c19 => ?_) (fun c19 => ?_)
        · exact hj_153 _ (by grind [zu_at, zu_atL])
        exact hj_15 _ (by grind [zu_at, zu_atL])
      refine zw_if (fun c20 => ?_) (fun c20 => ?_)
      · refine zw_zg32 2 (by decide) (by grind [zu_at, zu_atL]) ?_
        refine zw_if (fun c21 => ?_) (fun c21 => ?_)
        · exact hj_150 _ (by grind [zu_at, zu_atL])
        exact hj_152 _ (by grind [zu_at, zu_atL])
      exact hj_152 _ (by grind [zu_at, zu_atL])
    refine zw_if (fun c22 => ?_) (fun c22 => ?_)
    · exact hj_14 _ (by grind [zu_at, zu_atL])
    refine zw_zb0 (sf_X12_isBeginning s_9) (fun o_162 ho_162 => ?_)
    refine zw_if (fun c23 => ?_) (fun c23 => ?_)
    · refine zw_zb0 (sf_X12_faults 1 o_1.2.1 o_1.2.2.1 o_1.2.2.2 (by grind [zu_at, zu_atL]) (by grind [zu_at, zu_atL])) (fun o_167 ho_167 => ?_)
      exact hj_14 _ (by grind [zu_at, zu_atL])
    exact hj_14 _ (by grind [zu_at, zu_atL])
  refine zw_if (fun c24 => ?_) (fun c24 => ?_)
  · exact hj_9 _ (by grind [zu_at, zu_atL])
  refine zw_zb0 (sf_X12_own o_1.1 o_1.2.1 f2 f1 (by grind [zu_at, zu_atL]) (by grind [zu_at, zu_atL]) (by grind [zu_at, zu_atL]) (by grind [zu_at, zu_atL])) (fun o_172 ho_172 => ?_)
  exact hj_9 _ (by grind [zu_at, zu_atL])
set_option maxHeartbeats 1000000 in
theorem sf_X12_copiesTask (f1 : Nat → Int32) (f2 : Nat → Int32) (f3 : Nat → Int32) (f4 : Nat → Int32) (f5 : Nat → Int32) (f6 : Nat → Int32) (f7 : Nat → Int32) (f8 : Nat → Int32) (f9 : Nat → Int32) (f10 : Nat → Int32) (f11 : Nat → Int32) (f12 : Nat → Int64) (f13 : Nat → Int64) (f14 : Nat → Int32) (f15 : Nat → Int32) (f16 : Nat → Int32) (h_f1 : (∀ i : Nat, 0 ≤ f1 i ∧ f1 i ≤ 4)) (h_f2 : (∀ i : Nat, 0 ≤ f2 i ∧ f2 i ≤ 14)) (h_f10 : (∀ i : Nat, (-1) ≤ f10 i ∧ f10 i ≤ 13)) (h_f11 : (∀ i : Nat, (-1) ≤ f11 i ∧ f11 i ≤ 13)) (h_f14 : (∀ i : Nat, (-1) ≤ f14 i ∧ f14 i ≤ 3)) (h_f16 : (∀ i : Nat, 0 ≤ f16 i ∧ f16 i ≤ 13)) : zw (fn_X12_copiesTask f1 f2 f3 f4 f5 f6 f7 f8 f9 f10 f11 f12 f13 f14 f15 f16) (fun r => (∀ i : Nat, 0 ≤ r.1 i ∧ r.1 i ≤ 4) ∧ (∀ i : Nat, 0 ≤ r.2.1 i ∧ r.2.1 i ≤ 14) ∧ (∀ i : Nat, (-1) ≤ r.2.2.2.2.2.2.2.2.2.1 i ∧ r.2.2.2.2.2.2.2.2.2.1 i ≤ 13) ∧ (∀ i : Nat, (-1) ≤ r.2.2.2.2.2.2.2.2.2.2.1 i ∧ r.2.2.2.2.2.2.2.2.2.2.1 i ≤ 13) ∧ (∀ i : Nat, (-1) ≤ r.2.2.2.2.2.2.2.2.2.2.2.2.2.1 i ∧ r.2.2.2.2.2.2.2.2.2.2.2.2.2.1 i ≤ 3) ∧ (∀ i : Nat, 0 ≤ r.2.2.2.2.2.2.2.2.2.2.2.2.2.2.2 i ∧ r.2.2.2.2.2.2.2.2.2.2.2.2.2.2.2 i ≤ 13)) := by
  unfold fn_X12_copiesTask
  refine zw_zn (fun g_1 eg_1 => ?_)
  refine zw_zn (fun g_2 eg_2 => ?_)
  refine zw_zn (fun g_3 eg_3 => ?_)
  refine zw_zl32 (fun s_4 => 0 ≤ s_4.1 ∧ s_4.1 ≤ 4) (fun s_4 => 4 - s_4.1) (by (try dsimp only); grind [zu_at, zu_atL]) (by (try dsimp only); grind [zu_at, zu_atL]) (fun s_4 back_4 Hback_4 hback_4 => ?_)
  refine zw_if (fun c1 => ?_) (fun c1 => ?_)
  · refine zw_zl32 (fun s_6 => (∀ i : Nat, (-1) ≤ s_6.2.2.2.1 i ∧ s_6.2.2.2.1 i ≤ 13) ∧ (∀ i : Nat, (-1) ≤ s_6.2.2.2.2.1 i ∧ s_6.2.2.2.2.1 i ≤ 13) ∧ (∀ i : Nat, (-1) ≤ s_6.2.2.2.2.2.2.2.1 i ∧ s_6.2.2.2.2.2.2.2.1 i ≤ 3) ∧ (∀ i : Nat, 0 ≤ s_6.2.2.2.2.2.2.2.2.2 i ∧ s_6.2.2.2.2.2.2.2.2.2 i ≤ 13) ∧ 0 ≤ s_6.1 ∧ s_4.1 ≤ s_6.1 + 4 ∧ s_6.1 ≤ 14 ∧ s_6.1 ≤ s_4.1 + 10) (fun s_6 => 14 - s_6.1) (by (try dsimp only); grind [zu_at, zu_atL]) (by (try dsimp only); grind [zu_at, zu_atL]) (fun s_6 back_6 Hback_6 hback_6 => ?_)
    refine zw_if (fun c2 => ?_) (fun c2 => ?_)
    · refine zw_some ?_
      first | trivial | (try dsimp only); grind [zu_at, zu_atL]
    refine zw_zg32 28 (by decide) (by grind [zu_at, zu_atL]) ?_
    refine zw_zg32 28 (by decide) (by grind [zu_at, zu_atL]) ?_
    refine zw_zn (fun g_10 eg_10 => ?_)
    refine zw_zn (fun g_11 eg_11 => ?_)
    refine zw_zn (fun g_12 eg_12 => ?_)
    refine zw_zn (fun g_13 eg_13 => ?_)
    refine zw_zn (fun g_14 eg_14 => ?_)
    refine zw_zn (fun g_15 eg_15 => ?_)
    refine zw_zn (fun g_16 eg_16 => ?_)
    refine zw_zn (fun g_17 eg_17 => ?_)
    refine zw_zn (fun g_18 eg_18 => ?_)
    exact hback_6 _ (by grind [zu_at, zu_atL]) (by grind [zu_at, zu_atL]) (by grind [zu_at, zu_atL])
  refine zw_zg32 8 (by decide) (by grind [zu_at, zu_atL]) ?_
  refine zw_zg32 8 (by decide) (by grind [zu_at, zu_atL]) ?_
  refine zw_zn (fun g_21 eg_21 => ?_)
  refine zw_zn (fun g_22 eg_22 => ?_)
  refine zw_zn (fun g_23 eg_23 => ?_)
  refine zw_zn (fun g_24 eg_24 => ?_)
  exact hback_4 _ (by grind [zu_at, zu_atL]) (by grind [zu_at, zu_atL]) (by grind [zu_at, zu_atL])
set_option maxHeartbeats 1000000 in
theorem sf_X12_beginsChoice (f1 : Nat → Int32) (f2 : Nat → Int32) (f3 : Nat → Int32) (f4 : Nat → Int32) (h_f1 : (∀ i : Nat, 0 ≤ f1 i ∧ f1 i ≤ 14)) (h_f2 : (∀ i : Nat, 0 ≤ f2 i ∧ f2 i ≤ 3)) (h_f3 : (∀ i : Nat, (-1) ≤ f3 i ∧ f3 i ≤ 3)) (h_f4 : (∀ i : Nat, 0 ≤ f4 i ∧ f4 i ≤ 13)) : zw (fn_X12_beginsChoice f1 f2 f3 f4) (fun r => 0 ≤ r.1 ∧ r.1 ≤ 1 ∧ (∀ i : Nat, 0 ≤ r.2 i ∧ r.2 i ≤ 3)) := by
  unfold fn_X12_beginsChoice
  refine zw_zl32 (fun s_1 => (∀ i : Nat, 0 ≤ s_1.2 i ∧ s_1.2 i ≤ 3) ∧ 0 ≤ s_1.1 ∧ s_1.1 ≤ 14) (fun s_1 => 14 - s_1.1) (by (try dsimp only); grind [zu_at, zu_atL]) (by (try dsimp only); grind [zu_at, zu_atL]) (fun s_1 back_1 Hback_1 hback_1 => ?_)
  refine zw_if (fun c1 => ?_) (fun c1 => ?_)
  · refine zw_zl32 (fun s_3 => (∀ i : Nat, 0 ≤ s_3.2.2 i ∧ s_3.2.2 i ≤ 3) ∧ 0 ≤ s_3.1 ∧ 0 ≤ s_3.2.1 ∧ s_3.1 ≤ (f1 (0 : Int32).toNatClampNeg) ∧ s_3.2.1 ≤ 1) (fun s_3 => 14 - s_3.1) (by (try dsimp only); grind [zu_at, zu_atL]) (by (try dsimp only); grind [zu_at, zu_atL]) (fun s_3 back_3 Hback_3 hback_3 => ?_)
    refine zw_if (fun c2 => ?_) (fun c2 => ?_)
    · refine zw_some ?_
      first | trivial | (try dsimp only); grind [zu_at, zu_atL]
    refine zw_zg32 28 (by decide) (by grind [zu_at, zu_atL]) ?_
    refine zw_if (fun c3 => ?_) (fun c3 => ?_)
    · exact hback_3 _ (by grind [zu_at, zu_atL]) (by grind [zu_at, zu_atL]) (by grind [zu_at, zu_atL])
    refine zw_zl32 (fun s_7 => (∀ i : Nat, 0 ≤ s_7.2.2 i ∧ s_7.2.2 i ≤ 3) ∧ 0 ≤ s_7.1 ∧ 0 ≤ s_7.2.1 ∧ s_7.1 ≤ (f1 (0 : Int32).toNatClampNeg) ∧ s_7.2.1 ≤ s_3.2.1) (fun s_7 => 14 - s_7.1) (by (try dsimp only); grind [zu_at, zu_atL]) (by (try dsimp only); grind [zu_at, zu_atL]) (fun s_7 back_7 Hback_7 hback_7 => ?_)
    refine zw_if (fun c4 => ?_) (fun c4 => ?_)
    · exact hback_3 _ (by grind [zu_at, zu_atL]) (by grind [zu_at, zu_atL]) (by grind [zu_at, zu_atL])
    refine zw_zg32 28 (by decide) (by grind [zu_at, zu_atL]) ?_
    refine zw_zg32 28 (by decide) (by grind [zu_at, zu_atL]) ?_
    refine zw_if (fun c5 => ?_) (fun c5 => ?_)
    · refine zw_zg32 14 (by decide) (by grind [zu_at, zu_atL]) ?_
      refine zw_if (fun c6 => ?_) (fun c6 => ?_)
      · exact hback_7 _ (by grind [zu_at, zu_atL]) (by grind [zu_at, zu_atL]) (by grind [zu_at, zu_atL])
      refine zw_if (fun c7 => ?_) (fun c7 => ?_)
      · exact hback_7 _ (by grind [zu_at, zu_atL]) (by grind [zu_at, zu_atL]) (by grind [zu_at, zu_atL])
      refine zw_if (fun c8 => ?_) (fun c8 => ?_)
      · exact hback_7 _ (by grind [zu_at, zu_atL]) (by grind [zu_at, zu_atL]) (by grind [zu_at, zu_atL])
      exact hback_7 _ (by grind [zu_at, zu_atL]) (by grind [zu_at, zu_atL]) (by grind [zu_at, zu_atL])
    exact hback_7 _ (by grind [zu_at, zu_atL]) (by grind [zu_at, zu_atL]) (by grind [zu_at, zu_atL])
  refine zw_zg32 14 (by decide) (by grind [zu_at, zu_atL]) ?_
  exact hback_1 _ (by grind [zu_at, zu_atL]) (by grind [zu_at, zu_atL]) (by grind [zu_at, zu_atL])
set_option maxHeartbeats 1000000 in
theorem sf_X12_task (v0_1 : Int32) (v0_7 : Int32) (w0_28 : Int64) (v0_38 : Int32) (v0_58 : Int32) (v0_59 : Int32) (f1 : Nat → Int32) (f2 : Nat → Int32) (f3 : Nat → Int32) (f4 : Nat → Int32) (f5 : Nat → Int32) (f6 : Nat → Int32) (f7 : Nat → Int32) (f8 : Nat → Int32) (f9 : Nat → Int32) (f10 : Nat → Int32) (f11 : Nat → Int32) (f12 : Nat → Int32) (f13 : Nat → Int32) (f14 : Nat → Int32) (f15 : Nat → Int32) (f16 : Nat → Int32) (f17 : Nat → Int64) (f18 : Nat → Int64) (f19 : Nat → Int32) (f20 : Nat → Int32) (h_v0_1 : 0 ≤ v0_1 ∧ v0_1 ≤ 1200) (h_v0_7 : 0 ≤ v0_7 ∧ v0_7 ≤ 1200) (h_v0_38 : 0 ≤ v0_38 ∧ v0_38 ≤ 1) (h_f1 : (∀ i : Nat, 0 ≤ f1 i ∧ f1 i ≤ 4)) (h_f2 : (∀ i : Nat, 0 ≤ f2 i ∧ f2 i ≤ 14)) (h_f4 : (∀ i : Nat, 0 ≤ f4 i ∧ f4 i ≤ 255)) (h_f13 : (∀ i : Nat, (-1) ≤ f13 i ∧ f13 i ≤ 13)) (h_f14 : (∀ i : Nat, (-1) ≤ f14 i ∧ f14 i ≤ 13)) (h_f15 : (∀ i : Nat, (-1) ≤ f15 i ∧ f15 i ≤ 3)) (h_f16 : (∀ i : Nat, 0 ≤ f16 i ∧ f16 i ≤ 13)) (h_f19 : (∀ i : Nat, 0 ≤ f19 i ∧ f19 i ≤ 3)) (hx_0 : (∀ k : Nat, k < 71 → f5 k = zTab k)) : zw (fn_X12_task v0_1 v0_7 w0_28 v0_38 v0_58 v0_59 f1 f2 f3 f4 f5 f6 f7 f8 f9 f10 f11 f12 f13 f14 f15 f16 f17 f18 f19 f20) (fun r => 0 ≤ r.2.1 ∧ r.2.1 ≤ 1200 ∧ 0 ≤ r.2.2.1 ∧ r.2.2.1 ≤ 1 ∧ 0 ≤ r.2.2.2.2.2.1 ∧ r.2.2.2.2.2.1 ≤ 1 ∧ 0 ≤ r.2.2.2.2.2.2.2.1 ∧ r.2.2.2.2.2.2.2.1 ≤ 1200 ∧ 0 ≤ r.2.2.2.2.2.2.2.2.2.2.1 ∧ r.2.2.2.2.2.2.2.2.2.2.1 ≤ 1200 ∧ 0 ≤ r.2.2.2.2.2.2.2.2.2.2.2.1 ∧ r.2.2.2.2.2.2.2.2.2.2.2.1 ≤ 1200 ∧ 0 ≤ r.2.2.2.2.2.2.2.2.2.2.2.2.1 ∧ r.2.2.2.2.2.2.2.2.2.2.2.2.1 ≤ 4 ∧ (∀ i : Nat, 0 ≤ r.2.2.2.2.2.2.2.2.2.2.2.2.2.2.1 i ∧ r.2.2.2.2.2.2.2.2.2.2.2.2.2.2.1 i ≤ 4) ∧ (∀ i : Nat, 0 ≤ r.2.2.2.2.2.2.2.2.2.2.2.2.2.2.2.1 i ∧ r.2.2.2.2.2.2.2.2.2.2.2.2.2.2.2.1 i ≤ 14) ∧ (∀ i : Nat, (-1) ≤ r.2.2.2.2.2.2.2.2.2.2.2.2.2.2.2.2.2.2.2.2.2.2.2.2.1 i ∧ r.2.2.2.2.2.2.2.2.2.2.2.2.2.2.2.2.2.2.2.2.2.2.2.2.1 i ≤ 13) ∧ (∀ i : Nat, (-1) ≤ r.2.2.2.2.2.2.2.2.2.2.2.2.2.2.2.2.2.2.2.2.2.2.2.2.2.1 i ∧ r.2.2.2.2.2.2.2.2.2.2.2.2.2.2.2.2.2.2.2.2.2.2.2.2.2.1 i ≤ 13) ∧ (∀ i : Nat, (-1) ≤ r.2.2.2.2.2.2.2.2.2.2.2.2.2.2.2.2.2.2.2.2.2.2.2.2.2.2.1 i ∧ r.2.2.2.2.2.2.2.2.2.2.2.2.2.2.2.2.2.2.2.2.2.2.2.2.2.2.1 i ≤ 3) ∧ (∀ i : Nat, 0 ≤ r.2.2.2.2.2.2.2.2.2.2.2.2.2.2.2.2.2.2.2.2.2.2.2.2.2.2.2.1 i ∧ r.2.2.2.2.2.2.2.2.2.2.2.2.2.2.2.2.2.2.2.2.2.2.2.2.2.2.2.1 i ≤ 13) ∧ (∀ i : Nat, 0 ≤ r.2.2.2.2.2.2.2.2.2.2.2.2.2.2.2.2.2.2.2.2.2.2.2.2.2.2.2.2.2.2.1 i ∧ r.2.2.2.2.2.2.2.2.2.2.2.2.2.2.2.2.2.2.2.2.2.2.2.2.2.2.2.2.2.2.1 i ≤ 3) ∧ (-1) ≤ r.1 ∧ 0 ≤ r.2.2.2.2.1 ∧ r.1 ≤ 14 ∧ r.1 ≤ r.2.1 + 14 ∧ r.1 ≤ r.2.2.1 + 14 ∧ r.2.1 ≤ 0 ∧ r.2.1 ≤ r.1 + 1 ∧ r.2.1 ≤ r.2.2.2.2.2.2.2.2.2.2.1 ∧ r.2.1 ≤ r.2.2.2.2.2.2.2.2.2.2.2.1 ∧ r.2.1 ≤ r.2.2.2.2.2.2.2.2.2.2.2.2.1 ∧ r.2.1 ≤ r.2.2.1 ∧ r.2.1 ≤ r.2.2.2.2.1 ∧ r.2.1 ≤ r.2.2.2.2.2.1 ∧ r.2.1 ≤ r.2.2.2.2.2.2.2.1 ∧ r.2.1 ≤ v0_1 ∧ r.2.1 ≤ v0_38 ∧ r.2.1 ≤ v0_7 ∧ r.2.2.2.2.2.2.2.2.2.2.2.2.1 ≤ r.2.2.2.2.1 ∧ r.2.2.2.2.2.2.2.2.2.2.2.2.2.1 ≤ r.2.2.2.2.2.2.1 ∧ r.2.2.1 ≤ 0 ∧ r.2.2.1 ≤ r.1 + 1 ∧ r.2.2.1 ≤ r.2.1 ∧ r.2.2.1 ≤ r.2.2.2.2.2.2.2.2.2.2.1 ∧ r.2.2.1 ≤ r.2.2.2.2.2.2.2.2.2.2.2.1 ∧ r.2.2.1 ≤ r.2.2.2.2.2.2.2.2.2.2.2.2.1 ∧ r.2.2.1 ≤ r.2.2.2.2.1 ∧ r.2.2.1 ≤ r.2.2.2.2.2.1 ∧ r.2.2.1 ≤ r.2.2.2.2.2.2.2.1 ∧ r.2.2.1 ≤ v0_1 ∧ r.2.2.1 ≤ v0_38 ∧ r.2.2.1 ≤ v0_7 ∧ r.2.2.2.2.1 ≤ 4 ∧ r.2.2.2.2.1 ≤ r.2.1 + 4 ∧ r.2.2.2.2.1 ≤ r.2.2.2.2.2.2.2.2.2.2.2.2.1 ∧ r.2.2.2.2.1 ≤ r.2.2.1 + 4 ∧ r.2.2.2.2.2.2.1 ≤ r.2.2.2.2.2.2.2.2.2.2.2.2.2.1 ∧ r.2.2.2.2.2.2.2.1 ≤ v0_1 ∧ v0_1 ≤ r.2.2.2.2.2.2.2.1 ∧ (r.1 = (-1) → 1 ≤ r.2.2.2.2.2.2.2.2.2.2.2.2.1 ∧ 1 ≤ r.2.2.2.2.1 ∧ r.1 < r.2.1 ∧ r.1 < r.2.2.2.2.2.2.2.2.2.2.1 ∧ r.1 < r.2.2.2.2.2.2.2.2.2.2.2.1 ∧ r.1 + 2 ≤ r.2.2.2.2.2.2.2.2.2.2.2.2.1 ∧ r.1 < r.2.2.1 ∧ r.1 + 2 ≤ r.2.2.2.2.1 ∧ r.1 < r.2.2.2.2.2.1 ∧ r.1 < r.2.2.2.2.2.2.2.1 ∧ r.1 < v0_1 ∧ r.1 < v0_38 ∧ r.1 < v0_7 ∧ r.2.1 < r.2.2.2.2.2.2.2.2.2.2.2.2.1 ∧ r.2.1 < r.2.2.2.2.1 ∧ r.2.2.1 < r.2.2.2.2.2.2.2.2.2.2.2.2.1 ∧ r.2.2.1 < r.2.2.2.2.1 ∧ r.2.2.2.2.2.1 ≤ v0_38 ∧ r.2.2.2.2.2.2.2.2.1 ≤ v0_58 ∧ r.2.2.2.2.2.2.2.2.2.1 ≤ v0_59 ∧ v0_38 ≤ r.2.2.2.2.2.1 ∧ v0_58 ≤ r.2.2.2.2.2.2.2.2.1 ∧ v0_59 ≤ r.2.2.2.2.2.2.2.2.2.1) ∧ (¬ r.1 = (-1) → 0 ≤ r.1 ∧ (-1) ≤ r.2.2.2.2.2.2.2.2.1 ∧ (-1) ≤ r.2.2.2.2.2.2.2.2.2.1 ∧ r.1 ≤ r.2.2.2.2.2.2.2.2.1 + 15 ∧ r.1 ≤ r.2.2.2.2.2.2.2.2.2.1 + 15 ∧ r.2.1 ≤ r.1 ∧ r.2.1 ≤ r.2.2.2.2.2.2.2.2.1 + 1 ∧ r.2.1 ≤ r.2.2.2.2.2.2.2.2.2.1 + 1 ∧ r.2.2.2.2.2.2.2.2.2.2.2.2.1 ≤ 0 ∧ r.2.2.2.2.2.2.2.2.2.2.2.2.1 ≤ r.1 ∧ r.2.2.2.2.2.2.2.2.2.2.2.2.1 ≤ r.2.1 ∧ r.2.2.2.2.2.2.2.2.2.2.2.2.1 ≤ r.2.2.2.2.2.2.2.2.2.2.1 ∧ r.2.2.2.2.2.2.2.2.2.2.2.2.1 ≤ r.2.2.2.2.2.2.2.2.2.2.2.1 ∧ r.2.2.2.2.2.2.2.2.2.2.2.2.1 ≤ r.2.2.1 ∧ r.2.2.2.2.2.2.2.2.2.2.2.2.1 ≤ r.2.2.2.2.2.1 ∧ r.2.2.2.2.2.2.2.2.2.2.2.2.1 ≤ r.2.2.2.2.2.2.2.1 ∧ r.2.2.2.2.2.2.2.2.2.2.2.2.1 ≤ r.2.2.2.2.2.2.2.2.1 + 1 ∧ r.2.2.2.2.2.2.2.2.2.2.2.2.1 ≤ r.2.2.2.2.2.2.2.2.2.1 + 1 ∧ r.2.2.2.2.2.2.2.2.2.2.2.2.1 ≤ v0_1 ∧ r.2.2.2.2.2.2.2.2.2.2.2.2.1 ≤ v0_38 ∧ r.2.2.2.2.2.2.2.2.2.2.2.2.1 ≤ v0_7 ∧ r.2.2.1 ≤ r.1 ∧ r.2.2.1 ≤ r.2.2.2.2.2.2.2.2.1 + 1 ∧ r.2.2.1 ≤ r.2.2.2.2.2.2.2.2.2.1 + 1 ∧ r.2.2.2.2.1 ≤ 0 ∧ r.2.2.2.2.1 ≤ r.1 ∧ r.2.2.2.2.1 ≤ r.2.1 ∧ r.2.2.2.2.1 ≤ r.2.2.2.2.2.2.2.2.2.2.1 ∧ r.2.2.2.2.1 ≤ r.2.2.2.2.2.2.2.2.2.2.2.1 ∧ r.2.2.2.2.1 ≤ r.2.2.1 ∧ r.2.2.2.2.1 ≤ r.2.2.2.2.2.1 ∧ r.2.2.2.2.1 ≤ r.2.2.2.2.2.2.2.1 ∧ r.2.2.2.2.1 ≤ r.2.2.2.2.2.2.2.2.1 + 1 ∧ r.2.2.2.2.1 ≤ r.2.2.2.2.2.2.2.2.2.1 + 1 ∧ r.2.2.2.2.1 ≤ v0_1 ∧ r.2.2.2.2.1 ≤ v0_38 ∧ r.2.2.2.2.1 ≤ v0_7 ∧ r.2.2.2.2.2.1 ≤ r.2.2.2.2.2.2.2.2.1 + 2 ∧ r.2.2.2.2.2.1 ≤ r.2.2.2.2.2.2.2.2.2.1 + 2 ∧ r.2.2.2.2.2.2.2.2.1 ≤ (-1) ∧ r.2.2.2.2.2.2.2.2.1 < r.1 ∧ r.2.2.2.2.2.2.2.2.1 < r.2.1 ∧ r.2.2.2.2.2.2.2.2.1 < r.2.2.2.2.2.2.2.2.2.2.1 ∧ r.2.2.2.2.2.2.2.2.1 < r.2.2.2.2.2.2.2.2.2.2.2.1 ∧ r.2.2.2.2.2.2.2.2.1 < r.2.2.2.2.2.2.2.2.2.2.2.2.1 ∧ r.2.2.2.2.2.2.2.2.1 < r.2.2.1 ∧ r.2.2.2.2.2.2.2.2.1 < r.2.2.2.2.1 ∧ r.2.2.2.2.2.2.2.2.1 < r.2.2.2.2.2.1 ∧ r.2.2.2.2.2.2.2.2.1 < r.2.2.2.2.2.2.2.1 ∧ r.2.2.2.2.2.2.2.2.1 ≤ r.2.2.2.2.2.2.2.2.2.1 ∧ r.2.2.2.2.2.2.2.2.1 < v0_1 ∧ r.2.2.2.2.2.2.2.2.1 < v0_38 ∧ r.2.2.2.2.2.2.2.2.1 < v0_7 ∧ r.2.2.2.2.2.2.2.2.2.1 ≤ (-1) ∧ r.2.2.2.2.2.2.2.2.2.1 < r.1 ∧ r.2.2.2.2.2.2.2.2.2.1 < r.2.1 ∧ r.2.2.2.2.2.2.2.2.2.1 < r.2.2.2.2.2.2.2.2.2.2.1 ∧ r.2.2.2.2.2.2.2.2.2.1 < r.2.2.2.2.2.2.2.2.2.2.2.1 ∧ r.2.2.2.2.2.2.2.2.2.1 < r.2.2.2.2.2.2.2.2.2.2.2.2.1 ∧ r.2.2.2.2.2.2.2.2.2.1 < r.2.2.1 ∧ r.2.2.2.2.2.2.2.2.2.1 < r.2.2.2.2.1 ∧ r.2.2.2.2.2.2.2.2.2.1 < r.2.2.2.2.2.1 ∧ r.2.2.2.2.2.2.2.2.2.1 < r.2.2.2.2.2.2.2.1 ∧ r.2.2.2.2.2.2.2.2.2.1 ≤ r.2.2.2.2.2.2.2.2.1 ∧ r.2.2.2.2.2.2.2.2.2.1 < v0_1 ∧ r.2.2.2.2.2.2.2.2.2.1 < v0_38 ∧ r.2.2.2.2.2.2.2.2.2.1 < v0_7 ∧ v0_38 ≤ r.2.2.2.2.2.2.2.2.1 + 2 ∧ v0_38 ≤ r.2.2.2.2.2.2.2.2.2.1 + 2)) := by
  unfold fn_X12_task
  refine zw_zl32 (fun s_1 => (∀ i : Nat, 0 ≤ s_1.2.2.2.2.2.2.1 i ∧ s_1.2.2.2.2.2.2.1 i ≤ 4) ∧ (∀ i : Nat, 0 ≤ s_1.2.2.2.2.2.2.2.2.2.2.2.1 i ∧ s_1.2.2.2.2.2.2.2.2.2.2.2.1 i ≤ 14) ∧ (∀ i : Nat, (-1) ≤ s_1.2.2.2.2.2.2.2.2.2.2.2.2.2.2.1 i ∧ s_1.2.2.2.2.2.2.2.2.2.2.2.2.2.2.1 i ≤ 13) ∧ (∀ i : Nat, (-1) ≤ s_1.2.2.2.2.2.2.2.2.2.2.2.2.2.2.2.1 i ∧ s_1.2.2.2.2.2.2.2.2.2.2.2.2.2.2.2.1 i ≤ 13) ∧ (∀ i : Nat, (-1) ≤ s_1.2.2.2.2.2.2.2.2.2.2.2.2.2.2.2.2.2.2.2.1 i ∧ s_1.2.2.2.2.2.2.2.2.2.2.2.2.2.2.2.2.2.2.2.1 i ≤ 3) ∧ (∀ i : Nat, 0 ≤ s_1.2.2.2.2.2.2.2.2.2.2.2.2.2.2.2.2.2.2.2.2.2 i ∧ s_1.2.2.2.2.2.2.2.2.2.2.2.2.2.2.2.2.2.2.2.2.2 i ≤ 13) ∧ 0 ≤ s_1.1 ∧ 0 ≤ s_1.2.2.1 ∧ 0 ≤ s_1.2.2.2.1 ∧ 0 ≤ s_1.2.2.2.2.1 ∧ s_1.1 ≤ 41 ∧ s_1.2.2.1 ≤ 1200 ∧ s_1.2.2.2.1 ≤ 1200 ∧ s_1.2.2.2.2.1 ≤ 4 ∧ s_1.2.2.2.2.1 ≤ s_1.1 + 3 ∧ s_1.2.2.2.2.1 ≤ v0_1 + 3) (fun s_1 => 41 - s_1.1) (by (try dsimp only); grind [zu_at, zu_atL]) (by (try dsimp only); grind [zu_at, zu_atL]) (fun s_1 back_1 Hback_1 hback_1 => ?_)
  refine zw_zb0 (sf_X12_goesWell s_1.2.2.2.2.1 (by grind [zu_at, zu_atL])) (fun o_2 ho_2 => ?_)
  refine zw_zj (fun s_6 => 0 ≤ s_6 ∧ o_2 ≤ s_6 ∧ s_1.2.2.1 ≤ s_6 ∧ s_6 ≤ 1200 ∧ s_6 ≤ s_1.2.2.1) (fun s_6 Hj_6 => ?_) (fun j_6 hj_6 => ?_)
  · refine zw_zb0 (sf_X12_goesWell s_1.2.2.2.2.1 (by grind [zu_at, zu_atL])) (fun o_7 ho_7 => ?_)
    refine zw_zj (fun s_11 => 1 ≤ s_11.1 ∧ o_2 < s_11.1 ∧ o_7 < s_11.1 ∧ s_1.2.2.2.2.1 ≤ s_11.1 ∧ s_1.2.2.2.2.2.1 ≤ s_11.2 ∧ s_11.1 ≤ 4 ∧ s_11.1 ≤ o_2 + 4 ∧ s_11.1 ≤ o_7 + 4 ∧ s_11.1 ≤ s_1.1 + 3 ∧ s_11.1 ≤ s_1.2.2.2.2.1 ∧ s_11.1 ≤ v0_1 + 3 ∧ s_11.2 ≤ s_1.2.2.2.2.2.1) (fun s_11 Hj_11 => ?_) (fun j_11 hj_11 => ?_)
    · refine zw_if (fun c1 => ?_) (fun c1 => ?_)
      · refine zw_zb0 (sf_X12_copiesTask s_1.2.2.2.2.2.2.1 s_1.2.2.2.2.2.2.2.2.2.2.2.1 s_1.2.2.2.2.2.2.2.2.2.2.2.2.2.2.2.2.2.2.1 s_1.2.2.2.2.2.2.2.1 s_1.2.2.2.2.2.2.2.2.1 s_1.2.2.2.2.2.2.2.2.2.1 s_1.2.2.2.2.2.2.2.2.2.2.1 s_1.2.2.2.2.2.2.2.2.2.2.2.2.1 s_1.2.2.2.2.2.2.2.2.2.2.2.2.2.1 s_1.2.2.2.2.2.2.2.2.2.2.2.2.2.2.1 s_1.2.2.2.2.2.2.2.2.2.2.2.2.2.2.2.1 s_1.2.2.2.2.2.2.2.2.2.2.2.2.2.2.2.2.1 s_1.2.2.2.2.2.2.2.2.2.2.2.2.2.2.2.2.2.1 s_1.2.2.2.2.2.2.2.2.2.2.2.2.2.2.2.2.2.2.2.1 s_1.2.2.2.2.2.2.2.2.2.2.2.2.2.2.2.2.2.2.2.2.1 s_1.2.2.2.2.2.2.2.2.2.2.2.2.2.2.2.2.2.2.2.2.2 (by grind [zu_at, zu_atL]) (by grind [zu_at, zu_atL]) (by grind [zu_at, zu_atL]) (by grind [zu_at, zu_atL]) (by grind [zu_at, zu_atL]) (by grind [zu_at, zu_atL])) (fun o_13 ho_13 => ?_)
        refine zw_zb0 (sf_X12_beginsChoice o_13.2.1 f19 o_13.2.2.2.2.2.2.2.2.2.2.2.2.2.1 o_13.2.2.2.2.2.2.2.2.2.2.2.2.2.2.2 (by grind [zu_at, zu_atL]) (by grind [zu_at, zu_atL]) (by grind [zu_at, zu_atL]) (by grind [zu_at, zu_atL])) (fun o_17 ho_17 => ?_)
        refine zw_some ?_
        first | trivial | (try dsimp only); grind [zu_at, zu_atL]
      refine zw_zb0 (sf_X12_refuses 1 f20 (by grind [zu_at, zu_atL])) (fun o_21 ho_21 => ?_)
      refine zw_some ?_
      first | trivial | (try dsimp only); grind [zu_at, zu_atL]
    refine zw_if (fun c2 => ?_) (fun c2 => ?_)
    · exact hj_11 _ (by grind [zu_at, zu_atL])
    refine zw_zj (fun _ => (s_1.2.2.2.2.2.2.1 (1 : Int32).toNatClampNeg) ≤ 4 ∧ (s_1.2.2.2.2.2.2.1 (1 : Int32).toNatClampNeg) ≤ o_2 + 3 ∧ (s_1.2.2.2.2.2.2.1 (1 : Int32).toNatClampNeg) ≤ o_7 + 3 ∧ (s_1.2.2.2.2.2.2.1 (1 : Int32).toNatClampNeg) ≤ s_1.2.2.2.2.1 + 4 ∧ 0 ≤ (s_1.2.2.2.2.2.2.1 (1 : Int32).toNatClampNeg) ∧ o_2 ≤ (s_1.2.2.2.2.2.2.1 (1 : Int32).toNatClampNeg) + 1 ∧ o_7 ≤ (s_1.2.2.2.2.2.2.1 (1 : Int32).toNatClampNeg) + 1 ∧ s_1.2.2.2.2.1 ≤ (s_1.2.2.2.2.2.2.1 (1 : Int32).toNatClampNeg)) (fun s_26 Hj_26 => ?_) (fun j_26 hj_26 => ?_)
    · refine zw_zb0 (sf_X12_faults 4 v0_1 s_1.2.2.2.2.1 s_1.2.2.2.2.2.1 (by grind [zu_at, zu_atL]) (by grind [zu_at, zu_atL])) (fun o_27 ho_27 => ?_)
      exact hj_11 _ (by grind [zu_at, zu_atL])
    refine zw_if (fun c3 => ?_) (fun c3 => ?_)
    · exact hj_26 _ (by grind [zu_at, zu_atL])
    refine zw_if (fun c4 => ?_) (fun c4 => ?_)
    · exact hj_26 _ (by grind [zu_at, zu_atL])
    exact hj_11 _ (by grind [zu_at, zu_atL])
  refine zw_if (fun c5 => ?_) (fun c5 => ?_)
  · exact hj_6 _ (by grind [zu_at, zu_atL])
  refine zw_zb0 (sf_X12_here v0_1 s_1.2.2.1 f4 (by grind [zu_at, zu_atL]) (by grind [zu_at, zu_atL]) (by grind [zu_at, zu_atL])) (fun o_34 ho_34 => ?_)
  refine zw_if (fun c6 => ?_) (fun c6 => ?_)
  · exact hj_6 _ (by grind [zu_at, zu_atL])
  refine zw_zb0 (sf_X12_readsStatement s_1.1 v0_1 o_34.2 s_1.2.2.2.1 s_1.2.2.2.2.1 s_1.2.2.2.2.2.1 1 s_1.2.1 f4 f5 s_1.2.2.2.2.2.2.1 s_1.2.2.2.2.2.2.2.2.2.2.2.1 s_1.2.2.2.2.2.2.2.1 s_1.2.2.2.2.2.2.2.2.2.2.2.2.1 s_1.2.2.2.2.2.2.2.2.1 s_1.2.2.2.2.2.2.2.2.2.1 s_1.2.2.2.2.2.2.2.2.2.2.1 s_1.2.2.2.2.2.2.2.2.2.2.2.2.2.2.2.2.2.2.2.2.1 s_1.2.2.2.2.2.2.2.2.2.2.2.2.2.2.2.2.2.2.1 s_1.2.2.2.2.2.2.2.2.2.2.2.2.2.1 s_1.2.2.2.2.2.2.2.2.2.2.2.2.2.2.1 s_1.2.2.2.2.2.2.2.2.2.2.2.2.2.2.2.1 s_1.2.2.2.2.2.2.2.2.2.2.2.2.2.2.2.2.2.2.2.1 s_1.2.2.2.2.2.2.2.2.2.2.2.2.2.2.2.2.2.2.2.2.2 s_1.2.2.2.2.2.2.2.2.2.2.2.2.2.2.2.2.1 s_1.2.2.2.2.2.2.2.2.2.2.2.2.2.2.2.2.2.1 (by grind [zu_at, zu_atL]) (by grind [zu_at, zu_atL]) (by grind [zu_at, zu_atL]) (by grind [zu_at, zu_atL]) (by grind [zu_at, zu_atL]) (by grind [zu_at, zu_atL]) (by grind [zu_at, zu_atL]) (by grind [zu_at, zu_atL]) (by grind [zu_at, zu_atL]) (by grind [zu_at, zu_atL]) (by grind [zu_at, zu_atL]) (by grind [zu_at, zu_atL]) (by grind [zu_at, zu_atL]) (by grind [zu_at, zu_atL])) (fun o_39 ho_39 => ?_)
  exact hback_1 _ (by grind [zu_at, zu_atL]) (by grind [zu_at, zu_atL]) (by grind [zu_at, zu_atL])
set_option maxHeartbeats 1000000 in
theorem sf_X12_fault (p1 : Int32) (v0_3 : Int32) (v0_4 : Int32) : zw (fn_X12_fault p1 v0_3 v0_4) (fun r => (¬ r = (-1) → 0 ≤ p1 ∧ p1 ≤ 1)) := by
  unfold fn_X12_fault
  refine zw_if (fun c1 => ?_) (fun c1 => ?_)
  · refine zw_some ?_
    first | trivial | (try dsimp only); grind [zu_at, zu_atL]
  refine zw_if (fun c2 => ?_) (fun c2 => ?_)
  · refine zw_some ?_
    first | trivial | (try dsimp only); grind [zu_at, zu_atL]
  refine zw_some ?_
  first | trivial | (try dsimp only); grind [zu_at, zu_atL]
set_option maxHeartbeats 1000000 in
theorem sf_X12_isNumber (p1 : Int32) (f1 : Nat → Int32) (h_f1 : (∀ i : Nat, 0 ≤ f1 i ∧ f1 i ≤ 14)) : zw (fn_X12_isNumber p1 f1) (fun r => 0 ≤ r ∧ r ≤ 1 ∧ r ≤ (f1 (0 : Int32).toNatClampNeg) ∧ (¬ r = 0 → (f1 (0 : Int32).toNatClampNeg) ≤ r + 13 ∧ 0 ≤ p1 ∧ 1 ≤ r ∧ p1 < (f1 (0 : Int32).toNatClampNeg) ∧ r ≤ p1 + 1) ∧ (r = 1 → (f1 (0 : Int32).toNatClampNeg) ≤ r + 13 ∧ 0 ≤ p1 ∧ p1 < (f1 (0 : Int32).toNatClampNeg) ∧ r ≤ p1 + 1) ∧ (¬ r = 1 → r ≤ 0)) := by
  unfold fn_X12_isNumber
  refine zw_zb0 (sf_X12_isIn p1.toInt64 (0 : Int64) ((f1 (0 : Int32).toNatClampNeg).toInt64 - (1 : Int64))) (fun o_1 ho_1 => ?_)
  refine zw_some ?_
  first | trivial | (try dsimp only); grind [zu_at, zu_atL]
set_option maxHeartbeats 1000000 in
theorem sf_X12_isFormat (p1 : Int32) (f1 : Nat → Int32) (h_f1 : (∀ i : Nat, 0 ≤ f1 i ∧ f1 i ≤ 4)) : zw (fn_X12_isFormat p1 f1) (fun r => 0 ≤ r ∧ r ≤ 1 ∧ r ≤ (f1 (0 : Int32).toNatClampNeg) ∧ (¬ r = 0 → (f1 (0 : Int32).toNatClampNeg) ≤ r + 3 ∧ 0 ≤ p1 ∧ 1 ≤ r ∧ p1 < (f1 (0 : Int32).toNatClampNeg) ∧ r ≤ p1 + 1) ∧ (r = 1 → (f1 (0 : Int32).toNatClampNeg) ≤ r + 3 ∧ 0 ≤ p1 ∧ p1 < (f1 (0 : Int32).toNatClampNeg) ∧ r ≤ p1 + 1) ∧ (¬ r = 1 → r ≤ 0)) := by
  unfold fn_X12_isFormat
  refine zw_zb0 (sf_X12_isIn p1.toInt64 (0 : Int64) ((f1 (0 : Int32).toNatClampNeg).toInt64 - (1 : Int64))) (fun o_1 ho_1 => ?_)
  refine zw_some ?_
  first | trivial | (try dsimp only); grind [zu_at, zu_atL]
set_option maxHeartbeats 1000000 in
theorem sf_X12_inputs (f1 : Nat → Int32) (f2 : Nat → Int32) (h_f1 : (∀ i : Nat, 0 ≤ f1 i ∧ f1 i ≤ 14)) : zw (fn_X12_inputs f1 f2) (fun r => 0 ≤ r ∧ r ≤ 14) := by
  unfold fn_X12_inputs
  refine zw_zl32 (fun s_1 => 0 ≤ s_1.1 ∧ s_1.1 ≤ s_1.2 ∧ s_1.2 ≤ 14) (fun s_1 => 14 - s_1.2) (by (try dsimp only); grind [zu_at, zu_atL]) (by (try dsimp only); grind [zu_at, zu_atL]) (fun s_1 back_1 Hback_1 hback_1 => ?_)
  refine zw_if (fun c1 => ?_) (fun c1 => ?_)
  · refine zw_some ?_
    first | trivial | (try dsimp only); grind [zu_at, zu_atL]
  refine zw_zg32 28 (by decide) (by grind [zu_at, zu_atL]) ?_
  refine zw_if (fun c2 => ?_) (fun c2 => ?_)
  · exact hback_1 _ (by grind [zu_at, zu_atL]) (by grind [zu_at, zu_atL]) (by grind [zu_at, zu_atL])
  exact hback_1 _ (by grind [zu_at, zu_atL]) (by grind [zu_at, zu_atL]) (by grind [zu_at, zu_atL])
set_option maxHeartbeats 1000000 in
theorem sf_X12_answers (f1 : Nat → Int32) (f2 : Nat → Int32) (h_f1 : (∀ i : Nat, 0 ≤ f1 i ∧ f1 i ≤ 14)) : zw (fn_X12_answers f1 f2) (fun r => 0 ≤ r ∧ r ≤ 14) := by
  unfold fn_X12_answers
  refine zw_zl32 (fun s_1 => 0 ≤ s_1.1 ∧ s_1.1 ≤ s_1.2 ∧ s_1.2 ≤ 14) (fun s_1 => 14 - s_1.2) (by (try dsimp only); grind [zu_at, zu_atL]) (by (try dsimp only); grind [zu_at, zu_atL]) (fun s_1 back_1 Hback_1 hback_1 => ?_)
  refine zw_if (fun c1 => ?_) (fun c1 => ?_)
  · refine zw_some ?_
    first | trivial | (try dsimp only); grind [zu_at, zu_atL]
  refine zw_zg32 28 (by decide) (by grind [zu_at, zu_atL]) ?_
  refine zw_if (fun c2 => ?_) (fun c2 => ?_)
  · exact hback_1 _ (by grind [zu_at, zu_atL]) (by grind [zu_at, zu_atL]) (by grind [zu_at, zu_atL])
  exact hback_1 _ (by grind [zu_at, zu_atL]) (by grind [zu_at, zu_atL]) (by grind [zu_at, zu_atL])
set_option maxHeartbeats 1000000 in
theorem sf_X12_groups (f1 : Nat → Int32) (f2 : Nat → Int32) (h_f1 : (∀ i : Nat, 0 ≤ f1 i ∧ f1 i ≤ 14)) (h_f2 : (∀ i : Nat, 0 ≤ f2 i ∧ f2 i ≤ 13)) : zw (fn_X12_groups f1 f2) (fun r => 0 ≤ r ∧ r ≤ 14) := by
  unfold fn_X12_groups
  refine zw_zl32 (fun s_1 => 0 ≤ s_1.1 ∧ s_1.1 ≤ s_1.2 ∧ s_1.2 ≤ 14) (fun s_1 => 14 - s_1.2) (by (try dsimp only); grind [zu_at, zu_atL]) (by (try dsimp only); grind [zu_at, zu_atL]) (fun s_1 back_1 Hback_1 hback_1 => ?_)
  refine zw_if (fun c1 => ?_) (fun c1 => ?_)
  · refine zw_some ?_
    first | trivial | (try dsimp only); grind [zu_at, zu_atL]
  refine zw_zg32 28 (by decide) (by grind [zu_at, zu_atL]) ?_
  refine zw_if (fun c2 => ?_) (fun c2 => ?_)
  · exact hback_1 _ (by grind [zu_at, zu_atL]) (by grind [zu_at, zu_atL]) (by grind [zu_at, zu_atL])
  exact hback_1 _ (by grind [zu_at, zu_atL]) (by grind [zu_at, zu_atL]) (by grind [zu_at, zu_atL])
set_option maxHeartbeats 1000000 in
theorem sf_X12_isFree (p1 : Int32) (f1 : Nat → Int32) (f2 : Nat → Int32) (f3 : Nat → Int32) (h_f1 : (∀ i : Nat, 0 ≤ f1 i ∧ f1 i ≤ 14)) (h_f2 : (∀ i : Nat, 0 ≤ f2 i ∧ f2 i ≤ 13)) (h_f3 : (∀ i : Nat, (-1) ≤ f3 i ∧ f3 i ≤ 3)) : zw (fn_X12_isFree p1 f1 f2 f3) (fun r => 0 ≤ r ∧ r ≤ 1 ∧ (r = 1 → (f1 (0 : Int32).toNatClampNeg) ≤ r + 13) ∧ (¬ r = 1 → 1 ≤ (f1 (0 : Int32).toNatClampNeg) ∧ 0 ≤ p1 ∧ p1 ≤ 13 ∧ p1 ≤ r + 13 ∧ r < (f1 (0 : Int32).toNatClampNeg) ∧ r ≤ 0 ∧ r ≤ p1) ∧ (r = 0 → 1 ≤ (f1 (0 : Int32).toNatClampNeg) ∧ 0 ≤ p1 ∧ p1 ≤ 13 ∧ p1 ≤ r + 13 ∧ r < (f1 (0 : Int32).toNatClampNeg) ∧ r ≤ p1) ∧ (¬ r = 0 → (f1 (0 : Int32).toNatClampNeg) ≤ r + 13 ∧ 1 ≤ r)) := by
  unfold fn_X12_isFree
  refine zw_zl32 (fun s_1 => 0 ≤ s_1 ∧ s_1 ≤ 14) (fun s_1 => 14 - s_1) (by (try dsimp only); grind [zu_at, zu_atL]) (by (try dsimp only); grind [zu_at, zu_atL]) (fun s_1 back_1 Hback_1 hback_1 => ?_)
  refine zw_if (fun c1 => ?_) (fun c1 => ?_)
  · refine zw_some ?_
    first | trivial | (try dsimp only); grind [zu_at, zu_atL]
  refine zw_zg32 28 (by decide) (by grind [zu_at, zu_atL]) ?_
  refine zw_if (fun c2 => ?_) (fun c2 => ?_)
  · refine zw_if (fun c3 => ?_) (fun c3 => ?_)
    · exact hback_1 _ (by grind [zu_at, zu_atL]) (by grind [zu_at, zu_atL]) (by grind [zu_at, zu_atL])
    refine zw_some ?_
    first | trivial | (try dsimp only); grind [zu_at, zu_atL]
  exact hback_1 _ (by grind [zu_at, zu_atL]) (by grind [zu_at, zu_atL]) (by grind [zu_at, zu_atL])
set_option maxHeartbeats 1000000 in
theorem sf_X12_laysFree (f1 : Nat → Int32) (f2 : Nat → Int32) (f3 : Nat → Int32) (f4 : Nat → Int32) (h_f1 : (∀ i : Nat, 0 ≤ f1 i ∧ f1 i ≤ 14)) (h_f2 : (∀ i : Nat, 0 ≤ f2 i ∧ f2 i ≤ 13)) (h_f3 : (∀ i : Nat, (-1) ≤ f3 i ∧ f3 i ≤ 3)) (h_f4 : (∀ i : Nat, 0 ≤ f4 i ∧ f4 i ≤ 13)) : zw (fn_X12_laysFree f1 f2 f3 f4) (fun r => 0 ≤ r.1 ∧ r.1 ≤ 14 ∧ (∀ i : Nat, 0 ≤ r.2 i ∧ r.2 i ≤ 13)) := by
  unfold fn_X12_laysFree
  refine zw_zl32 (fun s_1 => (∀ i : Nat, 0 ≤ s_1.2.2 i ∧ s_1.2.2 i ≤ 13) ∧ 0 ≤ s_1.2.1 ∧ s_1.1 ≤ 14 ∧ s_1.2.1 ≤ s_1.1) (fun s_1 => 14 - s_1.1) (by (try dsimp only); grind [zu_at, zu_atL]) (by (try dsimp only); grind [zu_at, zu_atL]) (fun s_1 back_1 Hback_1 hback_1 => ?_)
  refine zw_if (fun c1 => ?_) (fun c1 => ?_)
  · refine zw_some ?_
    first | trivial | (try dsimp only); grind [zu_at, zu_atL]
  refine zw_zg32 28 (by decide) (by grind [zu_at, zu_atL]) ?_
  refine zw_if (fun c2 => ?_) (fun c2 => ?_)
  · refine zw_zb0 (sf_X12_isFree s_1.1 f1 f2 f3 (by grind [zu_at, zu_atL]) (by grind [zu_at, zu_atL]) (by grind [zu_at, zu_atL])) (fun o_5 ho_5 => ?_)
    refine zw_if (fun c3 => ?_) (fun c3 => ?_)
    · exact hback_1 _ (by grind [zu_at, zu_atL]) (by grind [zu_at, zu_atL]) (by grind [zu_at, zu_atL])
    refine zw_zg32 14 (by decide) (by grind [zu_at, zu_atL]) ?_
    exact hback_1 _ (by grind [zu_at, zu_atL]) (by grind [zu_at, zu_atL]) (by grind [zu_at, zu_atL])
  exact hback_1 _ (by grind [zu_at, zu_atL]) (by grind [zu_at, zu_atL]) (by grind [zu_at, zu_atL])
set_option maxHeartbeats 1000000 in
theorem sf_X12_has (p1 : Int32) (v0_64 : Int32) (f1 : Nat → Int32) (f2 : Nat → Int32) (f3 : Nat → Int32) (f4 : Nat → Int32) (f5 : Nat → Int32) (f6 : Nat → Int32) (f7 : Nat → Int32) (f8 : Nat → Int32) (h_f1 : (∀ i : Nat, 0 ≤ f1 i ∧ f1 i ≤ 14)) (h_f2 : (∀ i : Nat, 0 ≤ f2 i ∧ f2 i ≤ 13)) (h_f3 : (∀ i : Nat, (-1) ≤ f3 i ∧ f3 i ≤ 3)) (h_f4 : (∀ i : Nat, 0 ≤ f4 i ∧ f4 i ≤ 13)) (h_f5 : (∀ i : Nat, 0 ≤ f5 i ∧ f5 i ≤ 4)) : zw (fn_X12_has p1 v0_64 f1 f2 f3 f4 f5 f6 f7 f8) (fun r => 0 ≤ r.2.1 ∧ r.2.1 ≤ 14 ∧ (∀ i : Nat, 0 ≤ r.2.2 i ∧ r.2.2 i ≤ 13) ∧ (r.1 = 0 → 0 ≤ p1 ∧ p1 ≤ 7) ∧ (¬ r.1 = (-1) → 0 ≤ p1 ∧ p1 ≤ 7)) := by
  unfold fn_X12_has
  refine zw_zb0 (sf_X12_laysFree f1 f2 f3 f4 (by grind [zu_at, zu_atL]) (by grind [zu_at, zu_atL]) (by grind [zu_at, zu_atL]) (by grind [zu_at, zu_atL])) (fun o_1 ho_1 => ?_)
  refine zw_if (fun c1 => ?_) (fun c1 => ?_)
  · refine zw_some ?_
    first | trivial | (try dsimp only); grind [zu_at, zu_atL]
  refine zw_if (fun c2 => ?_) (fun c2 => ?_)
  · refine zw_some ?_
    first | trivial | (try dsimp only); grind [zu_at, zu_atL]
  refine zw_if (fun c3 => ?_) (fun c3 => ?_)
  · refine zw_zb0 (sf_X12_inputs f1 f6 (by grind [zu_at, zu_atL])) (fun o_8 ho_8 => ?_)
    refine zw_some ?_
    first | trivial | (try dsimp only); grind [zu_at, zu_atL]
  refine zw_if (fun c4 => ?_) (fun c4 => ?_)
  · refine zw_zb0 (sf_X12_answers f1 f7 (by grind [zu_at, zu_atL])) (fun o_13 ho_13 => ?_)
    refine zw_some ?_
    first | trivial | (try dsimp only); grind [zu_at, zu_atL]
  refine zw_if (fun c5 => ?_) (fun c5 => ?_)
  · refine zw_zb0 (sf_X12_groups f1 f2 (by grind [zu_at, zu_atL]) (by grind [zu_at, zu_atL])) (fun o_18 ho_18 => ?_)
    refine zw_some ?_
    first | trivial | (try dsimp only); grind [zu_at, zu_atL]
  refine zw_if (fun c6 => ?_) (fun c6 => ?_)
  · refine zw_some ?_
    first | trivial | (try dsimp only); grind [zu_at, zu_atL]
  refine zw_if (fun c7 => ?_) (fun c7 => ?_)
  · refine zw_if (fun c8 => ?_) (fun c8 => ?_)
    · refine zw_some ?_
      first | trivial | (try dsimp only); grind [zu_at, zu_atL]
    refine zw_some ?_
    first | trivial | (try dsimp only); grind [zu_at, zu_atL]
  refine zw_if (fun c9 => ?_) (fun c9 => ?_)
  · refine zw_some ?_
    first | trivial | (try dsimp only); grind [zu_at, zu_atL]
  refine zw_some ?_
  first | trivial | (try dsimp only); grind [zu_at, zu_atL]
set_option maxHeartbeats 1000000 in
theorem sf_X12_letter (p1 : Int32) (p2 : Int32) (p3 : Int32) (f1 : Nat → Int32) (f2 : Nat → Int32) (f3 : Nat → Int32) (f4 : Nat → Int32) (h_p2 : 0 ≤ p2 ∧ p2 ≤ 1) (h_f1 : (∀ i : Nat, 0 ≤ f1 i ∧ f1 i ≤ 14)) (h_f2 : (∀ i : Nat, 0 ≤ f2 i ∧ f2 i ≤ 4)) : zw (fn_X12_letter p1 p2 p3 f1 f2 f3 f4) (fun r => (-1) ≤ r ∧ r ≤ 31 ∧ (r = (-1) → r < p2) ∧ (¬ r = (-1) → ((5 * p3) &&& 31) ≤ 31 ∧ (5 * p3) ≤ 25 ∧ 0 ≤ ((5 * p3) &&& 31) ∧ 0 ≤ (5 * p3) ∧ 0 ≤ p1 ∧ 0 ≤ p3 ∧ 0 ≤ r ∧ p1 ≤ 27 ∧ p3 ≤ 5)) := by
  unfold fn_X12_letter
  refine zw_zj (fun s_1 => 0 ≤ s_1 ∧ s_1 ≤ 1 ∧ (s_1 = 0 ∨ p2 = 0 ∧ 0 ≤ p1 ∧ p1 < f1 (0 : Int32).toNatClampNeg ∨ ¬ p2 = 0 ∧ 0 ≤ p1 ∧ p1 < f2 (0 : Int32).toNatClampNeg)) (fun s_1 Hj_1 => ?_) (fun j_1 hj_1 => ?_)
  · refine zw_if (fun c1 => ?_) (fun c1 => ?_)
    · refine zw_some ?_
      first | trivial | (try dsimp only); grind [zu_at, zu_atL]
    refine zw_zb0 (sf_X12_isIn p3.toInt64 (0 : Int64) (5 : Int64)) (fun o_3 ho_3 => ?_)
    refine zw_if (fun c2 => ?_) (fun c2 => ?_)
    · refine zw_some ?_
      first | trivial | (try dsimp only); grind [zu_at, zu_atL]
    refine zw_if (fun c3 => ?_) (fun c3 => ?_)
    · refine zw_zg32 28 (by decide) (by grind [zu_at, zu_atL]) ?_
      refine zw_some ?_
      first | trivial | (try dsimp only); grind [zu_at, zu_atL]
    refine zw_zg32 8 (by decide) (by grind [zu_at, zu_atL]) ?_
    refine zw_some ?_
    first | trivial | (try dsimp only); grind [zu_at, zu_atL]
  refine zw_if (fun c4 => ?_) (fun c4 => ?_)
  · refine zw_zb0 (sf_X12_isNumber p1 f1 (by grind [zu_at, zu_atL])) (fun o_12 ho_12 => ?_)
    exact hj_1 _ (by grind [zu_at, zu_atL])
  refine zw_zb0 (sf_X12_isFormat p1 f2 (by grind [zu_at, zu_atL])) (fun o_16 ho_16 => ?_)
  exact hj_1 _ (by grind [zu_at, zu_atL])
set_option maxHeartbeats 1000000 in
theorem sf_X12_format (p1 : Int32) (p2 : Int32) (f1 : Nat → Int32) (f2 : Nat → Int32) (f3 : Nat → Int32) (f4 : Nat → Int32) (h_f1 : (∀ i : Nat, 0 ≤ f1 i ∧ f1 i ≤ 4)) : zw (fn_X12_format p1 p2 f1 f2 f3 f4) (fun r => (¬ r = (-1) → 0 ≤ p1 ∧ 0 ≤ p2 ∧ p1 < (f1 (0 : Int32).toNatClampNeg) ∧ p2 ≤ 2)) := by
  unfold fn_X12_format
  refine zw_zb0 (sf_X12_isFormat p1 f1 (by grind [zu_at, zu_atL])) (fun o_1 ho_1 => ?_)
  refine zw_if (fun c1 => ?_) (fun c1 => ?_)
  · refine zw_some ?_
    first | trivial | (try dsimp only); grind [zu_at, zu_atL]
  refine zw_if (fun c2 => ?_) (fun c2 => ?_)
  · refine zw_zg32 8 (by decide) (by grind [zu_at, zu_atL]) ?_
    refine zw_some ?_
    first | trivial | (try dsimp only); grind [zu_at, zu_atL]
  refine zw_if (fun c3 => ?_) (fun c3 => ?_)
  · refine zw_zg32 8 (by decide) (by grind [zu_at, zu_atL]) ?_
    refine zw_some ?_
    first | trivial | (try dsimp only); grind [zu_at, zu_atL]
  refine zw_if (fun c4 => ?_) (fun c4 => ?_)
  · refine zw_zg32 8 (by decide) (by grind [zu_at, zu_atL]) ?_
    refine zw_some ?_
    first | trivial | (try dsimp only); grind [zu_at, zu_atL]
  refine zw_some ?_
  first | trivial | (try dsimp only); grind [zu_at, zu_atL]
set_option maxHeartbeats 1000000 in
theorem sf_X12_groupPlace (p1 : Int32) (f1 : Nat → Int32) (h_p1 : 0 ≤ p1 ∧ p1 ≤ 13) (h_f1 : (∀ i : Nat, 0 ≤ f1 i ∧ f1 i ≤ 13)) : zw (fn_X12_groupPlace p1 f1) (fun r => 0 ≤ r ∧ r ≤ 13) := by
  unfold fn_X12_groupPlace
  refine zw_zl32 (fun s_1 => 0 ≤ s_1.1 ∧ s_1.1 ≤ s_1.2 ∧ s_1.2 ≤ 13) (fun s_1 => 13 - s_1.2) (by (try dsimp only); grind [zu_at, zu_atL]) (by (try dsimp only); grind [zu_at, zu_atL]) (fun s_1 back_1 Hback_1 hback_1 => ?_)
  refine zw_zg32 28 (by decide) (by grind [zu_at, zu_atL]) ?_
  refine zw_if (fun c1 => ?_) (fun c1 => ?_)
  · refine zw_some ?_
    first | trivial | (try dsimp only); grind [zu_at, zu_atL]
  refine zw_zg32 28 (by decide) (by grind [zu_at, zu_atL]) ?_
  refine zw_if (fun c2 => ?_) (fun c2 => ?_)
  · exact hback_1 _ (by grind [zu_at, zu_atL]) (by grind [zu_at, zu_atL]) (by grind [zu_at, zu_atL])
  exact hback_1 _ (by grind [zu_at, zu_atL]) (by grind [zu_at, zu_atL]) (by grind [zu_at, zu_atL])
set_option maxHeartbeats 1000000 in
theorem sf_X12_number_ (p1 : Int32) (p2 : Int32) (f1 : Nat → Int32) (f2 : Nat → Int32) (f3 : Nat → Int32) (f4 : Nat → Int32) (f5 : Nat → Int32) (f6 : Nat → Int32) (f7 : Nat → Int32) (h_f1 : (∀ i : Nat, 0 ≤ f1 i ∧ f1 i ≤ 14)) (h_f3 : (∀ i : Nat, (-1) ≤ f3 i ∧ f3 i ≤ 13)) (h_f4 : (∀ i : Nat, (-1) ≤ f4 i ∧ f4 i ≤ 13)) (h_f5 : (∀ i : Nat, 0 ≤ f5 i ∧ f5 i ≤ 13)) (h_f6 : (∀ i : Nat, (-1) ≤ f6 i ∧ f6 i ≤ 3)) : zw (fn_X12_number_ p1 p2 f1 f2 f3 f4 f5 f6 f7) (fun r => (¬ r = (-2) → 0 ≤ p1 ∧ 0 ≤ p2 ∧ p1 < (f1 (0 : Int32).toNatClampNeg) ∧ p2 ≤ 5)) := by
  unfold fn_X12_number_
  refine zw_zb0 (sf_X12_isNumber p1 f1 (by grind [zu_at, zu_atL])) (fun o_1 ho_1 => ?_)
  refine zw_if (fun c1 => ?_) (fun c1 => ?_)
  · refine zw_some ?_
    first | trivial | (try dsimp only); grind [zu_at, zu_atL]
  refine zw_if (fun c2 => ?_) (fun c2 => ?_)
  · refine zw_zg32 28 (by decide) (by grind [zu_at, zu_atL]) ?_
    refine zw_some ?_
    first | trivial | (try dsimp only); grind [zu_at, zu_atL]
  refine zw_if (fun c3 => ?_) (fun c3 => ?_)
  · refine zw_zg32 28 (by decide) (by grind [zu_at, zu_atL]) ?_
    refine zw_some ?_
    first | trivial | (try dsimp only); grind [zu_at, zu_atL]
  refine zw_if (fun c4 => ?_) (fun c4 => ?_)
  · refine zw_zg32 28 (by decide) (by grind [zu_at, zu_atL]) ?_
    refine zw_some ?_
    first | trivial | (try dsimp only); grind [zu_at, zu_atL]
  refine zw_if (fun c5 => ?_) (fun c5 => ?_)
  · refine zw_zb0 (sf_X12_groupPlace p1 f5 (by grind [zu_at, zu_atL]) (by grind [zu_at, zu_atL])) (fun o_13 ho_13 => ?_)
    refine zw_some ?_
    first | trivial | (try dsimp only); grind [zu_at, zu_atL]
  refine zw_if (fun c6 => ?_) (fun c6 => ?_)
  · refine zw_zg32 28 (by decide) (by grind [zu_at, zu_atL]) ?_
    refine zw_some ?_
    first | trivial | (try dsimp only); grind [zu_at, zu_atL]
  refine zw_if (fun c7 => ?_) (fun c7 => ?_)
  · refine zw_zg32 28 (by decide) (by grind [zu_at, zu_atL]) ?_
    refine zw_some ?_
    first | trivial | (try dsimp only); grind [zu_at, zu_atL]
  refine zw_some ?_
  first | trivial | (try dsimp only); grind [zu_at, zu_atL]
set_option maxHeartbeats 1000000 in
theorem sf_X12_told (p1 : Int32) (p2 : Int32) (f1 : Nat → Int32) (f2 : Nat → Int32) (f3 : Nat → Int32) (f4 : Nat → Int32) (f5 : Nat → Int64) (f6 : Nat → Int64) (h_f1 : (∀ i : Nat, 0 ≤ f1 i ∧ f1 i ≤ 14)) (h_f3 : (∀ i : Nat, (-1) ≤ f3 i ∧ f3 i ≤ 13)) (h_f4 : (∀ i : Nat, (-1) ≤ f4 i ∧ f4 i ≤ 13)) : zw (fn_X12_told p1 p2 f1 f2 f3 f4 f5 f6) (fun r => (¬ r = (-1000000000000000) → 0 ≤ p1 ∧ 0 ≤ p2 ∧ p1 < (f1 (0 : Int32).toNatClampNeg) ∧ p2 ≤ 1)) := by
  unfold fn_X12_told
  refine zw_zb0 (sf_X12_isNumber p1 f1 (by grind [zu_at, zu_atL])) (fun o_1 ho_1 => ?_)
  refine zw_if (fun c1 => ?_) (fun c1 => ?_)
  · refine zw_some ?_
    first | trivial | (try dsimp only); grind [zu_at, zu_atL]
  refine zw_zb0 (sf_X12_isIn p2.toInt64 (0 : Int64) (1 : Int64)) (fun o_6 ho_6 => ?_)
  refine zw_if (fun c2 => ?_) (fun c2 => ?_)
  · refine zw_some ?_
    first | trivial | (try dsimp only); grind [zu_at, zu_atL]
  refine zw_zg32 28 (by decide) (by grind [zu_at, zu_atL]) ?_
  refine zw_zj (fun _ => True) (fun s_12 Hj_12 => ?_) (fun j_12 hj_12 => ?_)
  · refine zw_if (fun c3 => ?_) (fun c3 => ?_)
    · refine zw_zg32 28 (by decide) (by grind [zu_at, zu_atL]) ?_
      refine zw_some ?_
      first | trivial | (try dsimp only); grind [zu_at, zu_atL]
    refine zw_zg32 28 (by decide) (by grind [zu_at, zu_atL]) ?_
    refine zw_some ?_
    first | trivial | (try dsimp only); grind [zu_at, zu_atL]
  refine zw_if (fun c4 => ?_) (fun c4 => ?_)
  · exact hj_12 _ (by grind [zu_at, zu_atL])
  refine zw_zj (fun s_17 => (-1) ≤ s_17 ∧ o_1 ≤ s_17 + 2 ∧ o_6 ≤ s_17 + 2 ∧ s_17 ≤ 13 ∧ s_17 ≤ o_1 + 12 ∧ s_17 ≤ o_6 + 12) (fun s_17 Hj_17 => ?_) (fun j_17 hj_17 => ?_)
  · refine zw_if (fun c5 => ?_) (fun c5 => ?_)
    · exact hj_12 _ (by grind [zu_at, zu_atL])
    refine zw_some ?_
    first | trivial | (try dsimp only); grind [zu_at, zu_atL]
  refine zw_if (fun c6 => ?_) (fun c6 => ?_)
  · exact hj_17 _ (by grind [zu_at, zu_atL])
  exact hj_17 _ (by grind [zu_at, zu_atL])
set_option maxHeartbeats 1000000 in
theorem sf_X12_rounded (j0 : Int64) (j1 : Int64) : zw (fn_X12_rounded j0 j1) (fun r => True) := by
  unfold fn_X12_rounded
  refine zw_zb0 (sf_X12_floor (((2 : Int64) * j0) + j1) ((2 : Int64) * j1) (by grind [zu_at, zu_atL])) (fun o_1 ho_1 => ?_)
  refine zw_some ?_
  first | trivial | (try dsimp only); grind [zu_at, zu_atL]
set_option maxHeartbeats 1000000 in
theorem sf_X12_roundedProduct (j0 : Int64) (j1 : Int64) (j2 : Int64) : zw (fn_X12_roundedProduct j0 j1 j2) (fun r => True) := by
  unfold fn_X12_roundedProduct
  refine zw_zb0 (sf_X12_floor ((((2 : Int64) * j0) * j1) + ((1000 : Int64) * j2)) ((2000 : Int64) * j2) (by grind [zu_at, zu_atL])) (fun o_1 ho_1 => ?_)
  refine zw_some ?_
  first | trivial | (try dsimp only); grind [zu_at, zu_atL]
set_option maxHeartbeats 1000000 in
theorem sf_X12_two (p0 : Int32) (j1 : Int64) (j2 : Int64) (j3 : Int64) : zw (fn_X12_two p0 j1 j2 j3) (fun r => True) := by
  unfold fn_X12_two
  refine zw_if (fun c1 => ?_) (fun c1 => ?_)
  · refine zw_some ?_
    first | trivial | (try dsimp only); grind [zu_at, zu_atL]
  refine zw_if (fun c2 => ?_) (fun c2 => ?_)
  · refine zw_some ?_
    first | trivial | (try dsimp only); grind [zu_at, zu_atL]
  refine zw_if (fun c3 => ?_) (fun c3 => ?_)
  · refine zw_zb0 (sf_X12_roundedProduct j1 j2 j3) (fun o_4 ho_4 => ?_)
    refine zw_some ?_
    first | trivial | (try dsimp only); grind [zu_at, zu_atL]
  refine zw_if (fun c4 => ?_) (fun c4 => ?_)
  · refine zw_zb0 (sf_X12_lesser j1 j2) (fun o_9 ho_9 => ?_)
    refine zw_some ?_
    first | trivial | (try dsimp only); grind [zu_at, zu_atL]
  refine zw_zb0 (sf_X12_greater j1 j2) (fun o_13 ho_13 => ?_)
  refine zw_some ?_
  first | trivial | (try dsimp only); grind [zu_at, zu_atL]
set_option maxHeartbeats 1000000 in
theorem sf_X12_lowOf (p1 : Int32) (p2 : Int32) (f1 : Nat → Int32) (f2 : Nat → Int32) (f3 : Nat → Int64) (f4 : Nat → Int64) (f5 : Nat → Int64) (h_p1 : 0 ≤ p1 ∧ p1 ≤ 13) (h_p2 : 0 ≤ p2 ∧ p2 ≤ 1) (h_f1 : (∀ i : Nat, (-1) ≤ f1 i ∧ f1 i ≤ 13)) (h_f2 : (∀ i : Nat, (-1) ≤ f2 i ∧ f2 i ≤ 13)) : zw (fn_X12_lowOf p1 p2 f1 f2 f3 f4 f5) (fun r => True) := by
  unfold fn_X12_lowOf
  refine zw_zj (fun s_1 => (-1) ≤ s_1 ∧ s_1 ≤ 13) (fun s_1 Hj_1 => ?_) (fun j_1 hj_1 => ?_)
  · refine zw_if (fun c1 => ?_) (fun c1 => ?_)
    · refine zw_if (fun c2 => ?_) (fun c2 => ?_)
      · refine zw_zg32 28 (by decide) (by grind [zu_at, zu_atL]) ?_
        refine zw_some ?_
        first | trivial | (try dsimp only); grind [zu_at, zu_atL]
      refine zw_zg32 28 (by decide) (by grind [zu_at, zu_atL]) ?_
      refine zw_some ?_
      first | trivial | (try dsimp only); grind [zu_at, zu_atL]
    refine zw_zg32 14 (by decide) (by grind [zu_at, zu_atL]) ?_
    refine zw_some ?_
    first | trivial | (try dsimp only); grind [zu_at, zu_atL]
  refine zw_if (fun c3 => ?_) (fun c3 => ?_)
  · refine zw_zg32 28 (by decide) (by grind [zu_at, zu_atL]) ?_
    exact hj_1 _ (by grind [zu_at, zu_atL])
  refine zw_zg32 28 (by decide) (by grind [zu_at, zu_atL]) ?_
  exact hj_1 _ (by grind [zu_at, zu_atL])
set_option maxHeartbeats 1000000 in
theorem sf_X12_highOf (p1 : Int32) (p2 : Int32) (f1 : Nat → Int32) (f2 : Nat → Int32) (f3 : Nat → Int64) (f4 : Nat → Int64) (f5 : Nat → Int64) (h_p1 : 0 ≤ p1 ∧ p1 ≤ 13) (h_p2 : 0 ≤ p2 ∧ p2 ≤ 1) (h_f1 : (∀ i : Nat, (-1) ≤ f1 i ∧ f1 i ≤ 13)) (h_f2 : (∀ i : Nat, (-1) ≤ f2 i ∧ f2 i ≤ 13)) : zw (fn_X12_highOf p1 p2 f1 f2 f3 f4 f5) (fun r => True) := by
  unfold fn_X12_highOf
  refine zw_zj (fun s_1 => (-1) ≤ s_1 ∧ s_1 ≤ 13) (fun s_1 Hj_1 => ?_) (fun j_1 hj_1 => ?_)
  · refine zw_if (fun c1 => ?_) (fun c1 => ?_)
    · refine zw_if (fun c2 => ?_) (fun c2 => ?_)
      · refine zw_zg32 28 (by decide) (by grind [zu_at, zu_atL]) ?_
        refine zw_some ?_
        first | trivial | (try dsimp only); grind [zu_at, zu_atL]
      refine zw_zg32 28 (by decide) (by grind [zu_at, zu_atL]) ?_
      refine zw_some ?_
      first | trivial | (try dsimp only); grind [zu_at, zu_atL]
    refine zw_zg32 14 (by decide) (by grind [zu_at, zu_atL]) ?_
    refine zw_some ?_
    first | trivial | (try dsimp only); grind [zu_at, zu_atL]
  refine zw_if (fun c3 => ?_) (fun c3 => ?_)
  · refine zw_zg32 28 (by decide) (by grind [zu_at, zu_atL]) ?_
    exact hj_1 _ (by grind [zu_at, zu_atL])
  refine zw_zg32 28 (by decide) (by grind [zu_at, zu_atL]) ?_
  exact hj_1 _ (by grind [zu_at, zu_atL])
set_option maxHeartbeats 1000000 in
theorem sf_X12_laysRange (p1 : Int32) (v0_33 : Int32) (w0_34 : Int64) (f1 : Nat → Int32) (f2 : Nat → Int32) (f3 : Nat → Int32) (f4 : Nat → Int64) (f5 : Nat → Int64) (f6 : Nat → Int64) (f7 : Nat → Int64) (h_p1 : 0 ≤ p1 ∧ p1 ≤ 13) (h_f2 : (∀ i : Nat, (-1) ≤ f2 i ∧ f2 i ≤ 13)) (h_f3 : (∀ i : Nat, (-1) ≤ f3 i ∧ f3 i ≤ 13)) : zw (fn_X12_laysRange p1 v0_33 w0_34 f1 f2 f3 f4 f5 f6 f7) (fun r => True) := by
  unfold fn_X12_laysRange
  refine zw_zg32 28 (by decide) (by grind [zu_at, zu_atL]) ?_
  refine zw_if (fun c1 => ?_) (fun c1 => ?_)
  · refine zw_zj (fun s_72 => True) (fun s_72 Hj_72 => ?_) (fun j_72 hj_72 => ?_)
    · refine zw_zg32 28 (by decide) (by grind [zu_at, zu_atL]) ?_
      refine zw_zg32 14 (by decide) (by grind [zu_at, zu_atL]) ?_
      refine zw_some ?_
      first | trivial | (try dsimp only); grind [zu_at, zu_atL]
    refine zw_if (fun c2 => ?_) (fun c2 => ?_)
    · exact hj_72 _ (by grind [zu_at, zu_atL])
    exact hj_72 _ (by grind [zu_at, zu_atL])
  refine zw_zb0 (sf_X12_lowOf p1 0 f2 f3 f4 f5 f6 (by grind [zu_at, zu_atL]) (by grind [zu_at, zu_atL]) (by grind [zu_at, zu_atL]) (by grind [zu_at, zu_atL])) (fun o_3 ho_3 => ?_)
  refine zw_zb0 (sf_X12_highOf p1 0 f2 f3 f7 f5 f6 (by grind [zu_at, zu_atL]) (by grind [zu_at, zu_atL]) (by grind [zu_at, zu_atL]) (by grind [zu_at, zu_atL])) (fun o_7 ho_7 => ?_)
  refine zw_zb0 (sf_X12_lowOf p1 1 f2 f3 f4 f5 f6 (by grind [zu_at, zu_atL]) (by grind [zu_at, zu_atL]) (by grind [zu_at, zu_atL]) (by grind [zu_at, zu_atL])) (fun o_11 ho_11 => ?_)
  refine zw_zb0 (sf_X12_highOf p1 1 f2 f3 f7 f5 f6 (by grind [zu_at, zu_atL]) (by grind [zu_at, zu_atL]) (by grind [zu_at, zu_atL]) (by grind [zu_at, zu_atL])) (fun o_15 ho_15 => ?_)
  refine zw_if (fun c3 => ?_) (fun c3 => ?_)
  · refine zw_zg32 14 (by decide) (by grind [zu_at, zu_atL]) ?_
    refine zw_some ?_
    first | trivial | (try dsimp only); grind [zu_at, zu_atL]
  refine zw_if (fun c4 => ?_) (fun c4 => ?_)
  · refine zw_zb0 (sf_X12_two 3 o_3 o_11 (1 : Int64)) (fun o_30 ho_30 => ?_)
    refine zw_zb0 (sf_X12_two 3 o_3 o_15 (1 : Int64)) (fun o_34 ho_34 => ?_)
    refine zw_zb0 (sf_X12_two 3 o_7 o_11 (1 : Int64)) (fun o_38 ho_38 => ?_)
    refine zw_zb0 (sf_X12_two 3 o_7 o_15 (1 : Int64)) (fun o_42 ho_42 => ?_)
    refine zw_zb0 (sf_X12_lesser o_30 o_34) (fun o_46 ho_46 => ?_)
    refine zw_zb0 (sf_X12_lesser o_38 o_42) (fun o_50 ho_50 => ?_)
    refine zw_zb0 (sf_X12_lesser o_46 o_50) (fun o_54 ho_54 => ?_)
    refine zw_zg32 14 (by decide) (by grind [zu_at, zu_atL]) ?_
    refine zw_zb0 (sf_X12_greater o_30 o_34) (fun o_59 ho_59 => ?_)
    refine zw_zb0 (sf_X12_greater o_38 o_42) (fun o_63 ho_63 => ?_)
    refine zw_zb0 (sf_X12_greater o_59 o_63) (fun o_67 ho_67 => ?_)
    refine zw_some ?_
    first | trivial | (try dsimp only); grind [zu_at, zu_atL]
  refine zw_zb0 (sf_X12_two (f1 p1.toNatClampNeg) o_3 o_11 (1 : Int64)) (fun o_21 ho_21 => ?_)
  refine zw_zg32 14 (by decide) (by grind [zu_at, zu_atL]) ?_
  refine zw_zb0 (sf_X12_two (f1 p1.toNatClampNeg) o_7 o_15 (1 : Int64)) (fun o_26 ho_26 => ?_)
  refine zw_some ?_
  first | trivial | (try dsimp only); grind [zu_at, zu_atL]
set_option maxHeartbeats 1000000 in
theorem sf_X12_mostOf (p1 : Int32) (f1 : Nat → Int64) (f2 : Nat → Int64) (h_p1 : 0 ≤ p1 ∧ p1 ≤ 13) : zw (fn_X12_mostOf p1 f1 f2) (fun r => True) := by
  unfold fn_X12_mostOf
  refine zw_zg32 14 (by decide) (by grind [zu_at, zu_atL]) ?_
  refine zw_zb0 (sf_X12_amount (f1 p1.toNatClampNeg)) (fun o_2 ho_2 => ?_)
  refine zw_zb0 (sf_X12_amount (f2 p1.toNatClampNeg)) (fun o_6 ho_6 => ?_)
  refine zw_zb0 (sf_X12_greater o_2 o_6) (fun o_10 ho_10 => ?_)
  refine zw_some ?_
  first | trivial | (try dsimp only); grind [zu_at, zu_atL]
set_option maxHeartbeats 1000000 in
theorem sf_X12_isGreatPart (p1 : Int32) (f1 : Nat → Int32) (h_p1 : (-1) ≤ p1 ∧ p1 ≤ 13) (h_f1 : (∀ i : Nat, 0 ≤ f1 i ∧ f1 i ≤ 1)) : zw (fn_X12_isGreatPart p1 f1) (fun r => 0 ≤ r ∧ r ≤ 1 ∧ r ≤ p1 + 1 ∧ (¬ r = 0 → (f1 p1.toNatClampNeg) ≤ 1 ∧ (f1 p1.toNatClampNeg) ≤ p1 + 1 ∧ (f1 p1.toNatClampNeg) ≤ r ∧ 1 ≤ (f1 p1.toNatClampNeg) ∧ 0 ≤ p1 ∧ 1 ≤ r ∧ p1 ≤ (f1 p1.toNatClampNeg) + 12 ∧ p1 ≤ r + 12 ∧ r ≤ (f1 p1.toNatClampNeg)) ∧ (r = 1 → (f1 p1.toNatClampNeg) ≤ 1 ∧ (f1 p1.toNatClampNeg) ≤ p1 + 1 ∧ (f1 p1.toNatClampNeg) ≤ r ∧ 1 ≤ (f1 p1.toNatClampNeg) ∧ 0 ≤ p1 ∧ p1 ≤ (f1 p1.toNatClampNeg) + 12 ∧ p1 ≤ r + 12 ∧ r ≤ (f1 p1.toNatClampNeg)) ∧ (¬ r = 1 → r ≤ 0)) := by
  unfold fn_X12_isGreatPart
  refine zw_if (fun c1 => ?_) (fun c1 => ?_)
  · refine zw_some ?_
    first | trivial | (try dsimp only); grind [zu_at, zu_atL]
  refine zw_zg32 14 (by decide) (by grind [zu_at, zu_atL]) ?_
  refine zw_if (fun c2 => ?_) (fun c2 => ?_)
  · refine zw_some ?_
    first | trivial | (try dsimp only); grind [zu_at, zu_atL]
  refine zw_some ?_
  first | trivial | (try dsimp only); grind [zu_at, zu_atL]
set_option maxHeartbeats 1000000 in
theorem sf_X12_range (p1 : Int32) (p2 : Int32) (v0_33 : Int32) (w0_34 : Int64) (f1 : Nat → Int32) (f2 : Nat → Int32) (f3 : Nat → Int32) (f4 : Nat → Int32) (f5 : Nat → Int32) (f6 : Nat → Int64) (f7 : Nat → Int64) (f8 : Nat → Int64) (f9 : Nat → Int64) (h_p2 : 0 ≤ p2 ∧ p2 ≤ 1) (h_f1 : (∀ i : Nat, 0 ≤ f1 i ∧ f1 i ≤ 14)) (h_f2 : (∀ i : Nat, (-1) ≤ f2 i ∧ f2 i ≤ 13)) (h_f3 : (∀ i : Nat, 0 ≤ f3 i ∧ f3 i ≤ 1)) (h_f4 : (∀ i : Nat, (-1) ≤ f4 i ∧ f4 i ≤ 13)) : zw (fn_X12_range p1 p2 v0_33 w0_34 f1 f2 f3 f4 f5 f6 f7 f8 f9) (fun r => (∀ i : Nat, 0 ≤ r.2.2.1 i ∧ r.2.2.1 i ≤ 1) ∧ (¬ r.1 = (-1000000000000000) → (f1 (0 : Int32).toNatClampNeg) ≤ r.2.1 + 15 ∧ 0 ≤ p1 ∧ (-1) ≤ r.2.1 ∧ p1 < (f1 (0 : Int32).toNatClampNeg) ∧ p2 ≤ r.2.1 + 2 ∧ r.2.1 ≤ (-1) ∧ r.2.1 < p1 ∧ r.2.1 < p2)) := by
  unfold fn_X12_range
  refine zw_zb0 (sf_X12_isNumber p1 f1 (by grind [zu_at, zu_atL])) (fun o_1 ho_1 => ?_)
  refine zw_if (fun c1 => ?_) (fun c1 => ?_)
  · refine zw_some ?_
    first | trivial | (try dsimp only); grind [zu_at, zu_atL]
  refine zw_zl32 (fun s_6 => (∀ i : Nat, 0 ≤ s_6.2.2.2 i ∧ s_6.2.2.2 i ≤ 1) ∧ 0 ≤ s_6.1 ∧ o_1 ≤ s_6.1 + 1 ∧ s_6.1 ≤ p1 + 1) (fun s_6 => 14 - s_6.1) (by (try dsimp only); grind [zu_at, zu_atL]) (by (try dsimp only); grind [zu_at, zu_atL]) (fun s_6 back_6 Hback_6 hback_6 => ?_)
  refine zw_if (fun c2 => ?_) (fun c2 => ?_)
  · refine zw_zg32 14 (by decide) (by grind [zu_at, zu_atL]) ?_
    refine zw_if (fun c3 => ?_) (fun c3 => ?_)
    · refine zw_if (fun c4 => ?_) (fun c4 => ?_)
      · refine zw_some ?_
        first | trivial | (try dsimp only); grind [zu_at, zu_atL]
      refine zw_some ?_
      first | trivial | (try dsimp only); grind [zu_at, zu_atL]
    refine zw_some ?_
    first | trivial | (try dsimp only); grind [zu_at, zu_atL]
  refine zw_zg32 28 (by decide) (by grind [zu_at, zu_atL]) ?_
  refine zw_zb0 (sf_X12_isGreatPart (f2 s_6.1.toNatClampNeg) s_6.2.2.2 (by grind [zu_at, zu_atL]) (by grind [zu_at, zu_atL])) (fun o_12 ho_12 => ?_)
  refine zw_zj (fun s_16 => (f1 (0 : Int32).toNatClampNeg) ≤ s_16 + 13 ∧ (f2 s_6.1.toNatClampNeg) ≤ s_16 + 12 ∧ (s_6.2.2.2 (f2 s_6.1.toNatClampNeg).toNatClampNeg) ≤ s_16 ∧ 1 ≤ s_16 ∧ o_1 ≤ s_16 ∧ o_12 ≤ s_16 ∧ p2 ≤ s_16 ∧ s_16 ≤ (f2 s_6.1.toNatClampNeg) + 1 ∧ s_16 ≤ (s_6.2.2.2 (f2 s_6.1.toNatClampNeg).toNatClampNeg) ∧ s_16 ≤ 1 ∧ s_16 ≤ o_1 ∧ s_16 ≤ o_12 ∧ s_16 ≤ p2 + 1 ∧ s_16 ≤ s_6.1 + 1) (fun s_16 Hj_16 => ?_) (fun j_16 hj_16 => ?_)
  · refine zw_zg32 14 (by decide) (by grind [zu_at, zu_atL]) ?_
    refine zw_zn (fun x_18 ex_18 => ?_)
    refine zw_if (fun c5 => ?_) (fun c5 => ?_)
    · refine zw_zb0 (sf_X12_laysRange s_6.1 (-1) w0_34 f5 f2 f4 s_6.2.1 f7 f8 s_6.2.2.1 (by grind [zu_at, zu_atL]) (by grind [zu_at, zu_atL]) (by grind [zu_at, zu_atL])) (fun o_20 ho_20 => ?_)
      refine zw_zb0 (sf_X12_mostOf s_6.1 o_20.1 o_20.2 (by grind [zu_at, zu_atL])) (fun o_24 ho_24 => ?_)
      refine zw_if (fun c6 => ?_) (fun c6 => ?_)
      · refine zw_zn (fun g_29 eg_29 => ?_)
        exact hback_6 _ (by grind [zu_at, zu_atL]) (by grind [zu_at, zu_atL]) (by grind [zu_at, zu_atL])
      refine zw_zn (fun g_30 eg_30 => ?_)
      exact hback_6 _ (by grind [zu_at, zu_atL]) (by grind [zu_at, zu_atL]) (by grind [zu_at, zu_atL])
    exact hback_6 _ (by grind [zu_at, zu_atL]) (by grind [zu_at, zu_atL]) (by grind [zu_at, zu_atL])
  refine zw_zj (fun _ => True) (fun s_31 Hj_31 => ?_) (fun j_31 hj_31 => ?_)
  · exact hj_16 _ (by grind [zu_at, zu_atL])
  refine zw_if (fun c7 => ?_) (fun c7 => ?_)
  · refine zw_zb0 (sf_X12_isGreatPart (f4 s_6.1.toNatClampNeg) s_6.2.2.2 (by grind [zu_at, zu_atL]) (by grind [zu_at, zu_atL])) (fun o_33 ho_33 => ?_)
    refine zw_if (fun c8 => ?_) (fun c8 => ?_)
    · exact hj_16 _ (by grind [zu_at, zu_atL])
    exact hj_31 _ (by grind [zu_at, zu_atL])
  exact hj_31 _ (by grind [zu_at, zu_atL])
set_option maxHeartbeats 1000000 in
theorem sf_X12_uses (p1 : Int32) (f1 : Nat → Int32) (f2 : Nat → Int32) (f3 : Nat → Int32) (h_f1 : (∀ i : Nat, 0 ≤ f1 i ∧ f1 i ≤ 14)) (h_f2 : (∀ i : Nat, (-1) ≤ f2 i ∧ f2 i ≤ 13)) (h_f3 : (∀ i : Nat, (-1) ≤ f3 i ∧ f3 i ≤ 13)) : zw (fn_X12_uses p1 f1 f2 f3) (fun r => (¬ r = (-1) → (p1 &&& 31) ≤ 31 ∧ 0 ≤ (p1 &&& 31) ∧ 0 ≤ p1 ∧ p1 < (f1 (0 : Int32).toNatClampNeg))) := by
  unfold fn_X12_uses
  refine zw_zb0 (sf_X12_isNumber p1 f1 (by grind [zu_at, zu_atL])) (fun o_1 ho_1 => ?_)
  refine zw_if (fun c1 => ?_) (fun c1 => ?_)
  · refine zw_some ?_
    first | trivial | (try dsimp only); grind [zu_at, zu_atL]
  refine zw_zl32 (fun s_6 => p1 < s_6.2 ∧ s_6.2 ≤ (f1 (0 : Int32).toNatClampNeg)) (fun s_6 => 14 - s_6.2) (by (try dsimp only); grind [zu_at, zu_atL]) (by (try dsimp only); grind [zu_at, zu_atL]) (fun s_6 back_6 Hback_6 hback_6 => ?_)
  refine zw_if (fun c2 => ?_) (fun c2 => ?_)
  · refine zw_some ?_
    first | trivial | (try dsimp only); grind [zu_at, zu_atL]
  refine zw_zg32 28 (by decide) (by grind [zu_at, zu_atL]) ?_
  refine zw_zj (fun s_9 => (f2 s_6.2.toNatClampNeg) ≤ 13 ∧ (f2 s_6.2.toNatClampNeg) ≤ o_1 + 12 ∧ (-1) ≤ (f2 s_6.2.toNatClampNeg) ∧ 0 ≤ s_9 ∧ o_1 ≤ (f2 s_6.2.toNatClampNeg) + 2 ∧ o_1 ≤ s_9 + 1 ∧ s_9 ≤ 1 ∧ s_9 ≤ o_1) (fun s_9 Hj_9 => ?_) (fun j_9 hj_9 => ?_)
  · refine zw_if (fun c3 => ?_) (fun c3 => ?_)
    · exact hback_6 _ (by grind [zu_at, zu_atL]) (by grind [zu_at, zu_atL]) (by grind [zu_at, zu_atL])
    exact hback_6 _ (by grind [zu_at, zu_atL]) (by grind [zu_at, zu_atL]) (by grind [zu_at, zu_atL])
  refine zw_zj (fun _ => (f2 s_6.2.toNatClampNeg) ≤ 13 ∧ (f2 s_6.2.toNatClampNeg) ≤ o_1 + 12 ∧ (-1) ≤ (f2 s_6.2.toNatClampNeg) ∧ o_1 ≤ (f2 s_6.2.toNatClampNeg) + 2) (fun s_11 Hj_11 => ?_) (fun j_11 hj_11 => ?_)
  · refine zw_zg32 28 (by decide) (by grind [zu_at, zu_atL]) ?_
    refine zw_zj (fun _ => (f3 s_6.2.toNatClampNeg) ≤ 13 ∧ (f3 s_6.2.toNatClampNeg) ≤ o_1 + 12 ∧ (-1) ≤ (f3 s_6.2.toNatClampNeg) ∧ o_1 ≤ (f3 s_6.2.toNatClampNeg) + 2) (fun s_13 Hj_13 => ?_) (fun j_13 hj_13 => ?_)
    · exact hj_9 _ (by grind [zu_at, zu_atL])
    refine zw_if (fun c4 => ?_) (fun c4 => ?_)
    · exact hj_13 _ (by grind [zu_at, zu_atL])
    refine zw_if (fun c5 => ?_) (fun c5 => ?_)
    · exact hj_9 _ (by grind [zu_at, zu_atL])
    exact hj_13 _ (by grind [zu_at, zu_atL])
  refine zw_if (fun c6 => ?_) (fun c6 => ?_)
  · exact hj_11 _ (by grind [zu_at, zu_atL])
  refine zw_if (fun c7 => ?_) (fun c7 => ?_)
  · exact hj_9 _ (by grind [zu_at, zu_atL])
  exact hj_11 _ (by grind [zu_at, zu_atL])
set_option maxHeartbeats 1000000 in
theorem sf_X12_deepOf (p1 : Int32) (f1 : Nat → Int32) (h_p1 : (-1) ≤ p1 ∧ p1 ≤ 13) : zw (fn_X12_deepOf p1 f1) (fun r => (¬ r = 0 → (f1 p1.toNatClampNeg) ≤ r ∧ 0 ≤ p1 ∧ r ≤ (f1 p1.toNatClampNeg))) := by
  unfold fn_X12_deepOf
  refine zw_if (fun c1 => ?_) (fun c1 => ?_)
  · refine zw_some ?_
    first | trivial | (try dsimp only); grind [zu_at, zu_atL]
  refine zw_zg32 14 (by decide) (by grind [zu_at, zu_atL]) ?_
  refine zw_some ?_
  first | trivial | (try dsimp only); grind [zu_at, zu_atL]
set_option maxHeartbeats 1000000 in
theorem sf_X12_depth (p1 : Int32) (f1 : Nat → Int32) (f2 : Nat → Int32) (f3 : Nat → Int32) (f4 : Nat → Int32) (f5 : Nat → Int32) (h_f1 : (∀ i : Nat, 0 ≤ f1 i ∧ f1 i ≤ 14)) (h_f2 : (∀ i : Nat, (-1) ≤ f2 i ∧ f2 i ≤ 13)) (h_f4 : (∀ i : Nat, (-1) ≤ f4 i ∧ f4 i ≤ 13)) : zw (fn_X12_depth p1 f1 f2 f3 f4 f5) (fun r => (¬ r.1 = (-1) → 0 ≤ p1 ∧ p1 < (f1 (0 : Int32).toNatClampNeg))) := by
  unfold fn_X12_depth
  refine zw_zb0 (sf_X12_isNumber p1 f1 (by grind [zu_at, zu_atL])) (fun o_1 ho_1 => ?_)
  refine zw_if (fun c1 => ?_) (fun c1 => ?_)
  · refine zw_some ?_
    first | trivial | (try dsimp only); grind [zu_at, zu_atL]
  refine zw_zl32 (fun s_6 => 0 ≤ s_6.1 ∧ o_1 ≤ s_6.1 + 1 ∧ s_6.1 ≤ p1 + 1) (fun s_6 => 14 - s_6.1) (by (try dsimp only); grind [zu_at, zu_atL]) (by (try dsimp only); grind [zu_at, zu_atL]) (fun s_6 back_6 Hback_6 hback_6 => ?_)
  refine zw_if (fun c2 => ?_) (fun c2 => ?_)
  · refine zw_zg32 14 (by decide) (by grind [zu_at, zu_atL]) ?_
    refine zw_some ?_
    first | trivial | (try dsimp only); grind [zu_at, zu_atL]
  refine zw_zg32 28 (by decide) (by grind [zu_at, zu_atL]) ?_
  refine zw_zb0 (sf_X12_deepOf (f2 s_6.1.toNatClampNeg) s_6.2 (by grind [zu_at, zu_atL])) (fun o_10 ho_10 => ?_)
  refine zw_zb0 (sf_X12_deepOf (f4 s_6.1.toNatClampNeg) s_6.2 (by grind [zu_at, zu_atL])) (fun o_14 ho_14 => ?_)
  refine zw_if (fun c3 => ?_) (fun c3 => ?_)
  · refine zw_zg32 14 (by decide) (by grind [zu_at, zu_atL]) ?_
    exact hback_6 _ (by grind [zu_at, zu_atL]) (by grind [zu_at, zu_atL]) (by grind [zu_at, zu_atL])
  refine zw_if (fun c4 => ?_) (fun c4 => ?_)
  · refine zw_zg32 14 (by decide) (by grind [zu_at, zu_atL]) ?_
    exact hback_6 _ (by grind [zu_at, zu_atL]) (by grind [zu_at, zu_atL]) (by grind [zu_at, zu_atL])
  refine zw_zg32 14 (by decide) (by grind [zu_at, zu_atL]) ?_
  exact hback_6 _ (by grind [zu_at, zu_atL]) (by grind [zu_at, zu_atL]) (by grind [zu_at, zu_atL])
set_option maxHeartbeats 1000000 in
theorem sf_X12_triesHand (f1 : Nat → Int32) (f2 : Nat → Int32) (f3 : Nat → Int32) (h_f1 : (∀ i : Nat, 0 ≤ f1 i ∧ f1 i ≤ 14)) (h_f2 : (∀ i : Nat, 0 ≤ f2 i ∧ f2 i ≤ 3)) (h_f3 : (∀ i : Nat, 0 ≤ f3 i ∧ f3 i ≤ 3)) : zw (fn_X12_triesHand f1 f2 f3) (fun r => (∀ i : Nat, 0 ≤ r i ∧ r i ≤ 3) ∧ (∀ i : Nat, r i = f2 i ∨ r i = f3 i)) := by
  unfold fn_X12_triesHand
  refine zw_zl32 (fun s_1 => (∀ i : Nat, 0 ≤ s_1.2 i ∧ s_1.2 i ≤ 3) ∧ 0 ≤ s_1.1 ∧ s_1.1 ≤ 14 ∧ (∀ i : Nat, s_1.2 i = f2 i ∨ s_1.2 i = f3 i)) (fun s_1 => 14 - s_1.1) (by (try dsimp only); grind [zu_at, zu_atL]) (by (try dsimp only); grind [zu_at, zu_atL]) (fun s_1 back_1 Hback_1 hback_1 => ?_)
  refine zw_if (fun c1 => ?_) (fun c1 => ?_)
  · refine zw_some ?_
    first | trivial | (try dsimp only); grind [zu_at, zu_atL]
  refine zw_zg32 14 (by decide) (by grind [zu_at, zu_atL]) ?_
  exact hback_1 _ (by grind [zu_at, zu_atL]) (by grind [zu_at, zu_atL]) (by grind [zu_at, zu_atL])
set_option maxHeartbeats 1000000 in
theorem sf_X12_triesGroup (p1 : Int32) (p2 : Int32) (f1 : Nat → Int32) (f2 : Nat → Int32) (f3 : Nat → Int32) (h_p2 : 0 ≤ p2 ∧ p2 ≤ 3) (h_f1 : (∀ i : Nat, 0 ≤ f1 i ∧ f1 i ≤ 14)) (h_f2 : (∀ i : Nat, 0 ≤ f2 i ∧ f2 i ≤ 13)) (h_f3 : (∀ i : Nat, 0 ≤ f3 i ∧ f3 i ≤ 3)) : zw (fn_X12_triesGroup p1 p2 f1 f2 f3) (fun r => (∀ i : Nat, 0 ≤ r i ∧ r i ≤ 3) ∧ (∀ i : Nat, r i = f3 i ∨ r i = p2)) := by
  unfold fn_X12_triesGroup
  refine zw_zl32 (fun s_1 => (∀ i : Nat, 0 ≤ s_1.2 i ∧ s_1.2 i ≤ 3) ∧ 0 ≤ s_1.1 ∧ s_1.1 ≤ 14 ∧ (∀ i : Nat, s_1.2 i = f3 i ∨ s_1.2 i = p2)) (fun s_1 => 14 - s_1.1) (by (try dsimp only); grind [zu_at, zu_atL]) (by (try dsimp only); grind [zu_at, zu_atL]) (fun s_1 back_1 Hback_1 hback_1 => ?_)
  refine zw_if (fun c1 => ?_) (fun c1 => ?_)
  · refine zw_some ?_
    first | trivial | (try dsimp only); grind [zu_at, zu_atL]
  refine zw_zg32 28 (by decide) (by grind [zu_at, zu_atL]) ?_
  refine zw_if (fun c2 => ?_) (fun c2 => ?_)
  · refine zw_zg32 14 (by decide) (by grind [zu_at, zu_atL]) ?_
    exact hback_1 _ (by grind [zu_at, zu_atL]) (by grind [zu_at, zu_atL]) (by grind [zu_at, zu_atL])
  refine zw_zg32 14 (by decide) (by grind [zu_at, zu_atL]) ?_
  exact hback_1 _ (by grind [zu_at, zu_atL]) (by grind [zu_at, zu_atL]) (by grind [zu_at, zu_atL])
set_option maxHeartbeats 1000000 in
theorem sf_X12_castError (p1 : Int32) (p2 : Int32) (f1 : Nat → Int32) (f2 : Nat → Int32) (f3 : Nat → Int32) (f4 : Nat → Int32) (f5 : Nat → Int64) (f6 : Nat → Int64) (f7 : Nat → Int64) (h_p1 : 0 ≤ p1 ∧ p1 ≤ 13) (h_p2 : 0 ≤ p2 ∧ p2 ≤ 1) (h_f1 : (∀ i : Nat, 0 ≤ f1 i ∧ f1 i ≤ 3)) (h_f3 : (∀ i : Nat, (-1) ≤ f3 i ∧ f3 i ≤ 13)) (h_f4 : (∀ i : Nat, (-1) ≤ f4 i ∧ f4 i ≤ 13)) (hx_0 : (∀ i : Nat, 1 ≤ f2 (f1 i).toNatClampNeg)) : zw (fn_X12_castError p1 p2 f1 f2 f3 f4 f5 f6 f7) (fun r => True) := by
  unfold fn_X12_castError
  refine zw_zg32 14 (by decide) (by grind [zu_at, zu_atL]) ?_
  refine zw_zg32 8 (by decide) (by grind [zu_at, zu_atL]) ?_
  refine zw_zj (fun s_3 => (-1) ≤ s_3 ∧ s_3 ≤ 13) (fun s_3 Hj_3 => ?_) (fun j_3 hj_3 => ?_)
  · refine zw_if (fun c1 => ?_) (fun c1 => ?_)
    · refine zw_zj (fun s_11 => True) (fun s_11 Hj_11 => ?_) (fun j_11 hj_11 => ?_)
      · refine zw_zd (by grind [zu_at, zu_atL]) ?_
        refine zw_zn (fun x_13 ex_13 => ?_)
        refine zw_if (fun c2 => ?_) (fun c2 => ?_)
        · refine zw_some ?_
          first | trivial | (try dsimp only); grind [zu_at, zu_atL]
        refine zw_some ?_
        first | trivial | (try dsimp only); grind [zu_at, zu_atL]
      refine zw_if (fun c3 => ?_) (fun c3 => ?_)
      · refine zw_zg32 28 (by decide) (by grind [zu_at, zu_atL]) ?_
        exact hj_11 _ (by grind [zu_at, zu_atL])
      refine zw_zg32 28 (by decide) (by grind [zu_at, zu_atL]) ?_
      exact hj_11 _ (by grind [zu_at, zu_atL])
    refine zw_zg32 14 (by decide) (by grind [zu_at, zu_atL]) ?_
    refine zw_zg32 8 (by decide) (by grind [zu_at, zu_atL]) ?_
    refine zw_zd (by grind [zu_at, zu_atL]) ?_
    refine zw_zn (fun x_8 ex_8 => ?_)
    refine zw_if (fun c4 => ?_) (fun c4 => ?_)
    · refine zw_some ?_
      first | trivial | (try dsimp only); grind [zu_at, zu_atL]
    refine zw_zn (fun x_10 ex_10 => ?_)
    refine zw_some ?_
    first | trivial | (try dsimp only); grind [zu_at, zu_atL]
  refine zw_if (fun c5 => ?_) (fun c5 => ?_)
  · refine zw_zg32 28 (by decide) (by grind [zu_at, zu_atL]) ?_
    exact hj_3 _ (by grind [zu_at, zu_atL])
  refine zw_zg32 28 (by decide) (by grind [zu_at, zu_atL]) ?_
  exact hj_3 _ (by grind [zu_at, zu_atL])
set_option maxHeartbeats 1000000 in
theorem sf_X12_laysError (p1 : Int32) (f1 : Nat → Int32) (f2 : Nat → Int32) (f3 : Nat → Int32) (f4 : Nat → Int32) (f5 : Nat → Int32) (f6 : Nat → Int64) (f7 : Nat → Int64) (f8 : Nat → Int64) (f9 : Nat → Int64) (f10 : Nat → Int64) (h_p1 : 0 ≤ p1 ∧ p1 ≤ 13) (h_f1 : (∀ i : Nat, 0 ≤ f1 i ∧ f1 i ≤ 3)) (h_f4 : (∀ i : Nat, (-1) ≤ f4 i ∧ f4 i ≤ 13)) (h_f5 : (∀ i : Nat, (-1) ≤ f5 i ∧ f5 i ≤ 13)) (hx_0 : (∀ i : Nat, 1 ≤ f2 (f1 i).toNatClampNeg)) : zw (fn_X12_laysError p1 f1 f2 f3 f4 f5 f6 f7 f8 f9 f10) (fun r => True) := by
  unfold fn_X12_laysError
  refine zw_zg32 14 (by decide) (by grind [zu_at, zu_atL]) ?_
  refine zw_zg32 8 (by decide) (by grind [zu_at, zu_atL]) ?_
  refine zw_zg32 28 (by decide) (by grind [zu_at, zu_atL]) ?_
  refine zw_if (fun c1 => ?_) (fun c1 => ?_)
  · refine zw_zn (fun g_67 eg_67 => ?_)
    refine zw_some ?_
    first | trivial | (try dsimp only); grind [zu_at, zu_atL]
  refine zw_zb0 (sf_X12_castError p1 0 f1 f2 f4 f5 f6 f7 f8 (by grind [zu_at, zu_atL]) (by grind [zu_at, zu_atL]) (by grind [zu_at, zu_atL]) (by grind [zu_at, zu_atL]) (by grind [zu_at, zu_atL]) (by grind [zu_at, zu_atL])) (fun o_5 ho_5 => ?_)
  refine zw_zb0 (sf_X12_castError p1 1 f1 f2 f4 f5 f6 f7 f8 (by grind [zu_at, zu_atL]) (by grind [zu_at, zu_atL]) (by grind [zu_at, zu_atL]) (by grind [zu_at, zu_atL]) (by grind [zu_at, zu_atL]) (by grind [zu_at, zu_atL])) (fun o_9 ho_9 => ?_)
  refine zw_zj (fun _ => (f3 p1.toNatClampNeg) ≤ 2 ∧ 1 ≤ (f3 p1.toNatClampNeg)) (fun s_13 Hj_13 => ?_) (fun j_13 hj_13 => ?_)
  · refine zw_zg32 14 (by decide) (by grind [zu_at, zu_atL]) ?_
    refine zw_some ?_
    first | trivial | (try dsimp only); grind [zu_at, zu_atL]
  refine zw_if (fun c2 => ?_) (fun c2 => ?_)
  · exact hj_13 _ (by grind [zu_at, zu_atL])
  refine zw_if (fun c3 => ?_) (fun c3 => ?_)
  · exact hj_13 _ (by grind [zu_at, zu_atL])
  refine zw_if (fun c4 => ?_) (fun c4 => ?_)
  · refine zw_zb0 (sf_X12_lowOf p1 0 f4 f5 f9 f7 f8 (by grind [zu_at, zu_atL]) (by grind [zu_at, zu_atL]) (by grind [zu_at, zu_atL]) (by grind [zu_at, zu_atL])) (fun o_22 ho_22 => ?_)
    refine zw_zb0 (sf_X12_amount o_22) (fun o_26 ho_26 => ?_)
    refine zw_zb0 (sf_X12_highOf p1 0 f4 f5 f10 f7 f8 (by grind [zu_at, zu_atL]) (by grind [zu_at, zu_atL]) (by grind [zu_at, zu_atL]) (by grind [zu_at, zu_atL])) (fun o_30 ho_30 => ?_)
    refine zw_zb0 (sf_X12_amount o_30) (fun o_34 ho_34 => ?_)
    refine zw_zb0 (sf_X12_greater o_26 o_34) (fun o_38 ho_38 => ?_)
    refine zw_zb0 (sf_X12_lowOf p1 1 f4 f5 f9 f7 f8 (by grind [zu_at, zu_atL]) (by grind [zu_at, zu_atL]) (by grind [zu_at, zu_atL]) (by grind [zu_at, zu_atL])) (fun o_42 ho_42 => ?_)
    refine zw_zb0 (sf_X12_amount o_42) (fun o_46 ho_46 => ?_)
    refine zw_zb0 (sf_X12_highOf p1 1 f4 f5 f10 f7 f8 (by grind [zu_at, zu_atL]) (by grind [zu_at, zu_atL]) (by grind [zu_at, zu_atL]) (by grind [zu_at, zu_atL])) (fun o_50 ho_50 => ?_)
    refine zw_zb0 (sf_X12_amount o_50) (fun o_54 ho_54 => ?_)
    refine zw_zb0 (sf_X12_greater o_46 o_54) (fun o_58 ho_58 => ?_)
    refine zw_zb0 (sf_X12_floor (-(((o_38 * o_9) + (o_58 * o_5)) + (o_5 * o_9))) (1000 : Int64) (by grind [zu_at, zu_atL])) (fun o_62 ho_62 => ?_)
    refine zw_zn (fun x_66 ex_66 => ?_)
    refine zw_some ?_
    first | trivial | (try dsimp only); grind [zu_at, zu_atL]
  refine zw_zb0 (sf_X12_greater o_5 o_9) (fun o_18 ho_18 => ?_)
  refine zw_some ?_
  first | trivial | (try dsimp only); grind [zu_at, zu_atL]
set_option maxHeartbeats 1000000 in
theorem sf_X12_passes (v0_33 : Int32) (w0_34 : Int64) (f1 : Nat → Int32) (f2 : Nat → Int32) (f3 : Nat → Int32) (f4 : Nat → Int32) (f5 : Nat → Int64) (f6 : Nat → Int64) (f7 : Nat → Int64) (f8 : Nat → Int64) (f9 : Nat → Int32) (f10 : Nat → Int32) (f11 : Nat → Int64) (f12 : Nat → Int32) (f13 : Nat → Int32) (h_f1 : (∀ i : Nat, 0 ≤ f1 i ∧ f1 i ≤ 14)) (h_f3 : (∀ i : Nat, (-1) ≤ f3 i ∧ f3 i ≤ 13)) (h_f4 : (∀ i : Nat, (-1) ≤ f4 i ∧ f4 i ≤ 13)) (h_f9 : (∀ i : Nat, 0 ≤ f9 i ∧ f9 i ≤ 3)) (hx_0 : (∀ i : Nat, 1 ≤ f10 (f9 i).toNatClampNeg)) : zw (fn_X12_passes v0_33 w0_34 f1 f2 f3 f4 f5 f6 f7 f8 f9 f10 f11 f12 f13) (fun r => 0 ≤ r.1 ∧ r.1 ≤ 1 ∧ 0 ≤ r.2.2.1 ∧ r.2.1 ≤ 13 ∧ r.2.1 ≤ r.2.2.1 + 12 ∧ r.2.2.1 ≤ 2 ∧ r.2.2.1 ≤ r.2.1 + 2 ∧ (r.1 = 1 → (f1 (0 : Int32).toNatClampNeg) ≤ r.1 + 13 ∧ r.2.1 ≤ 12 ∧ r.2.1 ≤ r.1 + 11 ∧ r.2.2.1 ≤ (f1 (0 : Int32).toNatClampNeg) ∧ r.2.2.1 ≤ 0 ∧ r.2.2.1 < r.1) ∧ (¬ r.1 = 1 → 1 ≤ r.2.2.1 ∧ r.1 ≤ (f1 (0 : Int32).toNatClampNeg) ∧ r.1 ≤ 0 ∧ r.1 < r.2.2.1) ∧ (r.1 = 0 → 1 ≤ r.2.2.1 ∧ r.1 ≤ (f1 (0 : Int32).toNatClampNeg) ∧ r.1 < r.2.2.1) ∧ (¬ r.1 = 0 → (f1 (0 : Int32).toNatClampNeg) ≤ r.1 + 13 ∧ 1 ≤ r.1 ∧ r.2.1 ≤ 12 ∧ r.2.1 ≤ r.1 + 11 ∧ r.2.2.1 ≤ (f1 (0 : Int32).toNatClampNeg) ∧ r.2.2.1 ≤ 0 ∧ r.2.2.1 < r.1)) := by
  unfold fn_X12_passes
  refine zw_zl32 (fun s_1 => 0 ≤ s_1.1 ∧ 0 ≤ s_1.2.2.1 ∧ s_1.1 ≤ 14 ∧ s_1.2.1 < s_1.1 ∧ s_1.2.1 ≤ s_1.2.2.1 + 12 ∧ s_1.2.2.1 ≤ 2 ∧ s_1.2.2.1 ≤ s_1.2.1 + 2) (fun s_1 => 14 - s_1.1) (by (try dsimp only); grind [zu_at, zu_atL]) (by (try dsimp only); grind [zu_at, zu_atL]) (fun s_1 back_1 Hback_1 hback_1 => ?_)
  refine zw_if (fun c1 => ?_) (fun c1 => ?_)
  · refine zw_if (fun c2 => ?_) (fun c2 => ?_)
    · refine zw_some ?_
      first | trivial | (try dsimp only); grind [zu_at, zu_atL]
    refine zw_some ?_
    first | trivial | (try dsimp only); grind [zu_at, zu_atL]
  refine zw_if (fun c3 => ?_) (fun c3 => ?_)
  · refine zw_zb0 (sf_X12_laysRange s_1.1 v0_33 w0_34 f2 f3 f4 s_1.2.2.2.1 f6 f7 s_1.2.2.2.2.1 (by grind [zu_at, zu_atL]) (by grind [zu_at, zu_atL]) (by grind [zu_at, zu_atL])) (fun o_6 ho_6 => ?_)
    refine zw_zb0 (sf_X12_laysError s_1.1 f9 f10 f2 f3 f4 s_1.2.2.2.2.2 f6 f7 o_6.1 o_6.2 (by grind [zu_at, zu_atL]) (by grind [zu_at, zu_atL]) (by grind [zu_at, zu_atL]) (by grind [zu_at, zu_atL]) (by grind [zu_at, zu_atL])) (fun o_10 ho_10 => ?_)
    refine zw_zb0 (sf_X12_mostOf s_1.1 o_6.1 o_6.2 (by grind [zu_at, zu_atL])) (fun o_14 ho_14 => ?_)
    refine zw_zg32 14 (by decide) (by grind [zu_at, zu_atL]) ?_
    refine zw_zg32 8 (by decide) (by grind [zu_at, zu_atL]) ?_
    refine zw_if (fun c4 => ?_) (fun c4 => ?_)
    · refine zw_zg32 28 (by decide) (by grind [zu_at, zu_atL]) ?_
      refine zw_if (fun c5 => ?_) (fun c5 => ?_)
      · refine zw_if (fun c6 => ?_) (fun c6 => ?_)
        · exact hback_1 _ (by grind [zu_at, zu_atL]) (by grind [zu_at, zu_atL]) (by grind [zu_at, zu_atL])
        exact hback_1 _ (by grind [zu_at, zu_atL]) (by grind [zu_at, zu_atL]) (by grind [zu_at, zu_atL])
      refine zw_if (fun c7 => ?_) (fun c7 => ?_)
      · refine zw_if (fun c8 => ?_) (fun c8 => ?_)
        · exact hback_1 _ (by grind [zu_at, zu_atL]) (by grind [zu_at, zu_atL]) (by grind [zu_at, zu_atL])
        exact hback_1 _ (by grind [zu_at, zu_atL]) (by grind [zu_at, zu_atL]) (by grind [zu_at, zu_atL])
      exact hback_1 _ (by grind [zu_at, zu_atL]) (by grind [zu_at, zu_atL]) (by grind [zu_at, zu_atL])
    exact hback_1 _ (by grind [zu_at, zu_atL]) (by grind [zu_at, zu_atL]) (by grind [zu_at, zu_atL])
  refine zw_if (fun c9 => ?_) (fun c9 => ?_)
  · refine zw_some ?_
    first | trivial | (try dsimp only); grind [zu_at, zu_atL]
  refine zw_some ?_
  first | trivial | (try dsimp only); grind [zu_at, zu_atL]
set_option maxHeartbeats 1000000 in
theorem sf_X12_isCast (p1 : Int32) (p2 : Int32) (f1 : Nat → Int32) (h_p1 : 0 ≤ p1 ∧ p1 ≤ 13) (h_p2 : (-1) ≤ p2 ∧ p2 ≤ 13) (h_f1 : (∀ i : Nat, 0 ≤ f1 i ∧ f1 i ≤ 3)) : zw (fn_X12_isCast p1 p2 f1) (fun r => 0 ≤ r ∧ r ≤ 1 ∧ r ≤ p2 + 1 ∧ (r = 0 → r ≤ p1) ∧ (¬ r = 0 → (f1 p1.toNatClampNeg) ≤ 3 ∧ (f1 p1.toNatClampNeg) ≤ r + 2 ∧ (f1 p2.toNatClampNeg) ≤ 3 ∧ (f1 p2.toNatClampNeg) ≤ r + 2 ∧ 0 ≤ (f1 p1.toNatClampNeg) ∧ 0 ≤ (f1 p2.toNatClampNeg) ∧ 0 ≤ p2 ∧ 1 ≤ r ∧ p1 ≤ r + 12 ∧ p2 ≤ r + 12 ∧ r ≤ (f1 p1.toNatClampNeg) + 1 ∧ r ≤ (f1 p2.toNatClampNeg) + 1) ∧ (r = 1 → (f1 p1.toNatClampNeg) ≤ 3 ∧ (f1 p1.toNatClampNeg) ≤ r + 2 ∧ (f1 p2.toNatClampNeg) ≤ 3 ∧ (f1 p2.toNatClampNeg) ≤ r + 2 ∧ 0 ≤ (f1 p1.toNatClampNeg) ∧ 0 ≤ (f1 p2.toNatClampNeg) ∧ 0 ≤ p2 ∧ p1 ≤ r + 12 ∧ p2 ≤ r + 12 ∧ r ≤ (f1 p1.toNatClampNeg) + 1 ∧ r ≤ (f1 p2.toNatClampNeg) + 1) ∧ (¬ r = 1 → r ≤ 0 ∧ r ≤ p1)) := by
  unfold fn_X12_isCast
  refine zw_if (fun c1 => ?_) (fun c1 => ?_)
  · refine zw_some ?_
    first | trivial | (try dsimp only); grind [zu_at, zu_atL]
  refine zw_zg32 14 (by decide) (by grind [zu_at, zu_atL]) ?_
  refine zw_zg32 14 (by decide) (by grind [zu_at, zu_atL]) ?_
  refine zw_if (fun c2 => ?_) (fun c2 => ?_)
  · refine zw_some ?_
    first | trivial | (try dsimp only); grind [zu_at, zu_atL]
  refine zw_some ?_
  first | trivial | (try dsimp only); grind [zu_at, zu_atL]
set_option maxHeartbeats 1000000 in
theorem sf_X12_castsTried (f1 : Nat → Int32) (f2 : Nat → Int32) (f3 : Nat → Int32) (f4 : Nat → Int32) (h_f1 : (∀ i : Nat, 0 ≤ f1 i ∧ f1 i ≤ 14)) (h_f2 : (∀ i : Nat, (-1) ≤ f2 i ∧ f2 i ≤ 13)) (h_f3 : (∀ i : Nat, 0 ≤ f3 i ∧ f3 i ≤ 3)) (h_f4 : (∀ i : Nat, (-1) ≤ f4 i ∧ f4 i ≤ 13)) : zw (fn_X12_castsTried f1 f2 f3 f4) (fun r => True) := by
  unfold fn_X12_castsTried
  refine zw_zl32 (fun s_1 => 0 ≤ s_1.2 ∧ s_1.2 ≤ 14) (fun s_1 => 14 - s_1.2) (by (try dsimp only); grind [zu_at, zu_atL]) (by (try dsimp only); grind [zu_at, zu_atL]) (fun s_1 back_1 Hback_1 hback_1 => ?_)
  refine zw_if (fun c1 => ?_) (fun c1 => ?_)
  · refine zw_some ?_
    first | trivial | (try dsimp only); grind [zu_at, zu_atL]
  refine zw_zg32 28 (by decide) (by grind [zu_at, zu_atL]) ?_
  refine zw_zb0 (sf_X12_isCast s_1.2 (f2 s_1.2.toNatClampNeg) f3 (by grind [zu_at, zu_atL]) (by grind [zu_at, zu_atL]) (by grind [zu_at, zu_atL])) (fun o_4 ho_4 => ?_)
  refine zw_zj (fun s_8 => (f1 (0 : Int32).toNatClampNeg) ≤ s_8 + 13 ∧ (f2 s_1.2.toNatClampNeg) ≤ s_8 + 12 ∧ (f3 (f2 s_1.2.toNatClampNeg).toNatClampNeg) ≤ s_8 + 2 ∧ (f3 s_1.2.toNatClampNeg) ≤ s_8 + 2 ∧ 1 ≤ s_8 ∧ o_4 ≤ s_8 ∧ s_8 ≤ (f2 s_1.2.toNatClampNeg) + 1 ∧ s_8 ≤ (f3 (f2 s_1.2.toNatClampNeg).toNatClampNeg) + 1 ∧ s_8 ≤ (f3 s_1.2.toNatClampNeg) + 1 ∧ s_8 ≤ 1 ∧ s_8 ≤ o_4 ∧ s_8 ≤ s_1.2 + 1) (fun s_8 Hj_8 => ?_) (fun j_8 hj_8 => ?_)
  · refine zw_zg32 28 (by decide) (by grind [zu_at, zu_atL]) ?_
    refine zw_zb0 (sf_X12_isCast s_1.2 (f4 s_1.2.toNatClampNeg) f3 (by grind [zu_at, zu_atL]) (by grind [zu_at, zu_atL]) (by grind [zu_at, zu_atL])) (fun o_10 ho_10 => ?_)
    refine zw_if (fun c2 => ?_) (fun c2 => ?_)
    · exact hback_1 _ (by grind [zu_at, zu_atL]) (by grind [zu_at, zu_atL]) (by grind [zu_at, zu_atL])
    exact hback_1 _ (by grind [zu_at, zu_atL]) (by grind [zu_at, zu_atL]) (by grind [zu_at, zu_atL])
  refine zw_if (fun c3 => ?_) (fun c3 => ?_)
  · exact hj_8 _ (by grind [zu_at, zu_atL])
  exact hj_8 _ (by grind [zu_at, zu_atL])
set_option maxHeartbeats 1000000 in
theorem sf_X12_costTried (f1 : Nat → Int32) (f2 : Nat → Int32) (f3 : Nat → Int32) (f4 : Nat → Int32) (f5 : Nat → Int32) (f6 : Nat → Int32) (h_f2 : (∀ i : Nat, 0 ≤ f2 i ∧ f2 i ≤ 14)) (h_f3 : (∀ i : Nat, (-1) ≤ f3 i ∧ f3 i ≤ 13)) (h_f4 : (∀ i : Nat, 0 ≤ f4 i ∧ f4 i ≤ 3)) (h_f5 : (∀ i : Nat, (-1) ≤ f5 i ∧ f5 i ≤ 13)) : zw (fn_X12_costTried f1 f2 f3 f4 f5 f6) (fun r => True) := by
  unfold fn_X12_costTried
  refine zw_zb0 (sf_X12_castsTried f2 f3 f4 f5 (by grind [zu_at, zu_atL]) (by grind [zu_at, zu_atL]) (by grind [zu_at, zu_atL]) (by grind [zu_at, zu_atL])) (fun o_1 ho_1 => ?_)
  refine zw_zl32 (fun s_5 => 0 ≤ s_5.2 ∧ s_5.2 ≤ (f2 (0 : Int32).toNatClampNeg)) (fun s_5 => 14 - s_5.2) (by (try dsimp only); grind [zu_at, zu_atL]) (by (try dsimp only); grind [zu_at, zu_atL]) (fun s_5 back_5 Hback_5 hback_5 => ?_)
  refine zw_if (fun c1 => ?_) (fun c1 => ?_)
  · refine zw_some ?_
    first | trivial | (try dsimp only); grind [zu_at, zu_atL]
  refine zw_zg32 14 (by decide) (by grind [zu_at, zu_atL]) ?_
  refine zw_zg32 8 (by decide) (by grind [zu_at, zu_atL]) ?_
  exact hback_5 _ (by grind [zu_at, zu_atL]) (by grind [zu_at, zu_atL]) (by grind [zu_at, zu_atL])
set_option maxHeartbeats 1000000 in
theorem sf_X12_handPasses (w0_34 : Int64) (v0_38 : Int32) (v0_41 : Int32) (v0_42 : Int32) (f1 : Nat → Int32) (f2 : Nat → Int32) (f3 : Nat → Int32) (f4 : Nat → Int32) (f5 : Nat → Int32) (f6 : Nat → Int32) (f7 : Nat → Int64) (f8 : Nat → Int64) (f9 : Nat → Int64) (f10 : Nat → Int64) (f11 : Nat → Int32) (f12 : Nat → Int64) (f13 : Nat → Int32) (f14 : Nat → Int32) (h_v0_38 : 0 ≤ v0_38 ∧ v0_38 ≤ 1) (h_f1 : (∀ i : Nat, 0 ≤ f1 i ∧ f1 i ≤ 14)) (h_f2 : (∀ i : Nat, 0 ≤ f2 i ∧ f2 i ≤ 3)) (h_f3 : (∀ i : Nat, 0 ≤ f3 i ∧ f3 i ≤ 3)) (h_f5 : (∀ i : Nat, (-1) ≤ f5 i ∧ f5 i ≤ 13)) (h_f6 : (∀ i : Nat, (-1) ≤ f6 i ∧ f6 i ≤ 13)) (hx_0 : f1 (0 : Int32).toNatClampNeg ≤ 0 ∨ (∀ i : Nat, 1 ≤ f11 (f2 i).toNatClampNeg) ∧ (∀ i : Nat, 1 ≤ f11 (f3 i).toNatClampNeg)) : zw (fn_X12_handPasses w0_34 v0_38 v0_41 v0_42 f1 f2 f3 f4 f5 f6 f7 f8 f9 f10 f11 f12 f13 f14) (fun r => 0 ≤ r.1 ∧ r.1 ≤ 1 ∧ (∀ i : Nat, 0 ≤ r.2.2.2.2.1 i ∧ r.2.2.2.2.1 i ≤ 3) ∧ (-1) ≤ r.2.1 ∧ r.1 ≤ v0_38 ∧ r.2.1 ≤ (-1) ∧ r.2.1 < r.1 ∧ v0_38 ≤ r.2.1 + 2 ∧ (r.1 = 0 → r.1 ≤ r.2.1 + 1) ∧ (¬ r.1 = 0 → (f1 (0 : Int32).toNatClampNeg) ≤ 14 ∧ (f1 (0 : Int32).toNatClampNeg) ≤ r.1 + 13 ∧ (f1 (0 : Int32).toNatClampNeg) ≤ r.2.1 + 15 ∧ (f1 (0 : Int32).toNatClampNeg) ≤ r.2.2.2.1 + 14 ∧ (f1 (0 : Int32).toNatClampNeg) ≤ v0_38 + 13 ∧ 1 ≤ (f1 (0 : Int32).toNatClampNeg) ∧ 1 ≤ r.1 ∧ (-2) ≤ r.2.2.1 ∧ 0 ≤ r.2.2.2.1 ∧ 1 ≤ v0_38 ∧ r.1 ≤ (f1 (0 : Int32).toNatClampNeg) ∧ r.1 ≤ r.2.2.1 + 3 ∧ r.1 ≤ r.2.2.2.1 + 1 ∧ r.2.1 + 2 ≤ (f1 (0 : Int32).toNatClampNeg) ∧ r.2.1 + 2 ≤ r.1 ∧ r.2.1 ≤ r.2.2.1 + 1 ∧ r.2.1 < r.2.2.2.1 ∧ r.2.1 + 2 ≤ v0_38 ∧ r.2.2.1 ≤ 12 ∧ r.2.2.1 ≤ r.1 + 11 ∧ r.2.2.1 ≤ r.2.1 + 13 ∧ r.2.2.1 ≤ r.2.2.2.1 + 12 ∧ r.2.2.1 ≤ v0_38 + 11 ∧ r.2.2.2.1 < (f1 (0 : Int32).toNatClampNeg) ∧ r.2.2.2.1 ≤ 0 ∧ r.2.2.2.1 < r.1 ∧ r.2.2.2.1 ≤ r.2.1 + 1 ∧ r.2.2.2.1 ≤ r.2.2.1 + 2 ∧ r.2.2.2.1 < v0_38 ∧ v0_38 ≤ (f1 (0 : Int32).toNatClampNeg) ∧ v0_38 ≤ r.1 ∧ v0_38 ≤ r.2.2.1 + 3 ∧ v0_38 ≤ r.2.2.2.1 + 1) ∧ (r.1 = 1 → (f1 (0 : Int32).toNatClampNeg) ≤ 14 ∧ (f1 (0 : Int32).toNatClampNeg) ≤ r.1 + 13 ∧ (f1 (0 : Int32).toNatClampNeg) ≤ r.2.1 + 15 ∧ (f1 (0 : Int32).toNatClampNeg) ≤ r.2.2.2.1 + 14 ∧ (f1 (0 : Int32).toNatClampNeg) ≤ v0_38 + 13 ∧ 1 ≤ (f1 (0 : Int32).toNatClampNeg) ∧ (-2) ≤ r.2.2.1 ∧ 0 ≤ r.2.2.2.1 ∧ 1 ≤ v0_38 ∧ r.1 ≤ (f1 (0 : Int32).toNatClampNeg) ∧ r.1 ≤ r.2.2.1 + 3 ∧ r.1 ≤ r.2.2.2.1 + 1 ∧ r.2.1 + 2 ≤ (f1 (0 : Int32).toNatClampNeg) ∧ r.2.1 + 2 ≤ r.1 ∧ r.2.1 ≤ r.2.2.1 + 1 ∧ r.2.1 < r.2.2.2.1 ∧ r.2.1 + 2 ≤ v0_38 ∧ r.2.2.1 ≤ 12 ∧ r.2.2.1 ≤ r.1 + 11 ∧ r.2.2.1 ≤ r.2.1 + 13 ∧ r.2.2.1 ≤ r.2.2.2.1 + 12 ∧ r.2.2.1 ≤ v0_38 + 11 ∧ r.2.2.2.1 < (f1 (0 : Int32).toNatClampNeg) ∧ r.2.2.2.1 ≤ 0 ∧ r.2.2.2.1 < r.1 ∧ r.2.2.2.1 ≤ r.2.1 + 1 ∧ r.2.2.2.1 ≤ r.2.2.1 + 2 ∧ r.2.2.2.1 < v0_38 ∧ v0_38 ≤ (f1 (0 : Int32).toNatClampNeg) ∧ v0_38 ≤ r.1 ∧ v0_38 ≤ r.2.2.1 + 3 ∧ v0_38 ≤ r.2.2.2.1 + 1) ∧ (¬ r.1 = 1 → r.1 ≤ 0 ∧ r.1 ≤ r.2.1 + 1) ∧ (∀ i : Nat, r.2.2.2.2.1 i = f2 i ∨ r.2.2.2.2.1 i = f3 i)) := by
  unfold fn_X12_handPasses
  refine zw_if (fun c1 => ?_) (fun c1 => ?_)
  · refine zw_some ?_
    first | trivial | (try dsimp only); grind [zu_at, zu_atL]
  refine zw_if (fun c2 => ?_) (fun c2 => ?_)
  · refine zw_some ?_
    first | trivial | (try dsimp only); grind [zu_at, zu_atL]
  refine zw_zb0 (sf_X12_triesHand f1 f2 f3 (by grind [zu_at, zu_atL]) (by grind [zu_at, zu_atL]) (by grind [zu_at, zu_atL])) (fun o_3 ho_3 => ?_)
  refine zw_zb0 (sf_X12_passes (-1) w0_34 f1 f4 f5 f6 f7 f8 f9 f10 o_3 f11 f12 f13 f14 (by grind [zu_at, zu_atL]) (by grind [zu_at, zu_atL]) (by grind [zu_at, zu_atL]) (by grind [zu_at, zu_atL]) (by grind [zu_at, zu_atL])) (fun o_7 ho_7 => ?_)
  refine zw_some ?_
  first | trivial | (try dsimp only); grind [zu_at, zu_atL]
set_option maxHeartbeats 1000000 in
theorem sf_X12_chosen (p1 : Int32) (v0_38 : Int32) (f1 : Nat → Int32) (f2 : Nat → Int32) (h_v0_38 : 0 ≤ v0_38 ∧ v0_38 ≤ 1) (h_f1 : (∀ i : Nat, 0 ≤ f1 i ∧ f1 i ≤ 14)) (h_f2 : (∀ i : Nat, 0 ≤ f2 i ∧ f2 i ≤ 3)) : zw (fn_X12_chosen p1 v0_38 f1 f2) (fun r => (-1) ≤ r ∧ r ≤ v0_38 + 2 ∧ (r = (-1) → r < v0_38) ∧ (¬ r = (-1) → (f1 (0 : Int32).toNatClampNeg) ≤ 14 ∧ (f1 (0 : Int32).toNatClampNeg) ≤ v0_38 + 13 ∧ (f2 p1.toNatClampNeg) ≤ 3 ∧ (f2 p1.toNatClampNeg) ≤ r ∧ (f2 p1.toNatClampNeg) ≤ v0_38 + 2 ∧ 0 ≤ (f2 p1.toNatClampNeg) ∧ 0 ≤ p1 ∧ 0 ≤ r ∧ 1 ≤ v0_38 ∧ p1 < (f1 (0 : Int32).toNatClampNeg) ∧ r ≤ (f2 p1.toNatClampNeg) ∧ v0_38 ≤ (f2 p1.toNatClampNeg) + 1 ∧ v0_38 ≤ p1 + 1 ∧ v0_38 ≤ r + 1)) := by
  unfold fn_X12_chosen
  refine zw_if (fun c1 => ?_) (fun c1 => ?_)
  · refine zw_some ?_
    first | trivial | (try dsimp only); grind [zu_at, zu_atL]
  refine zw_zb0 (sf_X12_isNumber p1 f1 (by grind [zu_at, zu_atL])) (fun o_2 ho_2 => ?_)
  refine zw_if (fun c2 => ?_) (fun c2 => ?_)
  · refine zw_some ?_
    first | trivial | (try dsimp only); grind [zu_at, zu_atL]
  refine zw_zg32 14 (by decide) (by grind [zu_at, zu_atL]) ?_
  refine zw_some ?_
  first | trivial | (try dsimp only); grind [zu_at, zu_atL]
set_option maxHeartbeats 1000000 in
theorem sf_X12_choose (p1 : Int32) (p2 : Int32) (v0_38 : Int32) (f1 : Nat → Int32) (f2 : Nat → Int32) (f3 : Nat → Int32) (f4 : Nat → Int32) (f5 : Nat → Int32) (f6 : Nat → Int32) (h_v0_38 : 0 ≤ v0_38 ∧ v0_38 ≤ 1) (h_f2 : (∀ i : Nat, 0 ≤ f2 i ∧ f2 i ≤ 14)) (h_f3 : (∀ i : Nat, 0 ≤ f3 i ∧ f3 i ≤ 4)) (h_f4 : (∀ i : Nat, 0 ≤ f4 i ∧ f4 i ≤ 13)) (h_f5 : (∀ i : Nat, (-1) ≤ f5 i ∧ f5 i ≤ 3)) (h_f6 : (∀ i : Nat, 0 ≤ f6 i ∧ f6 i ≤ 3)) : zw (fn_X12_choose p1 p2 v0_38 f1 f2 f3 f4 f5 f6) (fun r => (∀ i : Nat, 0 ≤ r.2.2 i ∧ r.2.2 i ≤ 3) ∧ (-1) ≤ r.1 ∧ r.1 ≤ v0_38 + 2 ∧ (r.1 = (-1) → r.1 < v0_38) ∧ (¬ r.1 = (-1) → (f2 (0 : Int32).toNatClampNeg) ≤ 14 ∧ (f2 (0 : Int32).toNatClampNeg) ≤ v0_38 + 13 ∧ (f3 (0 : Int32).toNatClampNeg) ≤ 4 ∧ (f3 (0 : Int32).toNatClampNeg) ≤ v0_38 + 3 ∧ (f4 p1.toNatClampNeg) ≤ 13 ∧ (f4 p1.toNatClampNeg) ≤ v0_38 + 12 ∧ (f6 p1.toNatClampNeg) ≤ 3 ∧ (f6 p1.toNatClampNeg) ≤ r.1 ∧ (f6 p1.toNatClampNeg) ≤ v0_38 + 2 ∧ 0 ≤ (f4 p1.toNatClampNeg) ∧ 0 ≤ (f6 p1.toNatClampNeg) ∧ 0 ≤ p1 ∧ 0 ≤ p2 ∧ 0 ≤ r.1 ∧ 1 ≤ v0_38 ∧ p1 < (f2 (0 : Int32).toNatClampNeg) ∧ p2 < (f3 (0 : Int32).toNatClampNeg) ∧ r.1 ≤ (f6 p1.toNatClampNeg) ∧ v0_38 ≤ (f4 p1.toNatClampNeg) + 1 ∧ v0_38 ≤ (f6 p1.toNatClampNeg) + 1 ∧ v0_38 ≤ p1 + 1 ∧ v0_38 ≤ p2 + 1 ∧ v0_38 ≤ r.1 + 1) ∧ (∀ i : Nat, r.2.2 i = f6 i ∨ 0 ≤ r.2.2 i ∧ r.2.2 i < f3 (0 : Int32).toNatClampNeg)) := by
  unfold fn_X12_choose
  refine zw_if (fun c1 => ?_) (fun c1 => ?_)
  · refine zw_zb0 (sf_X12_refuses 2 f1 (by grind [zu_at, zu_atL])) (fun o_2 ho_2 => ?_)
    refine zw_some ?_
    first | trivial | (try dsimp only); grind [zu_at, zu_atL]
  refine zw_zb0 (sf_X12_isNumber p1 f2 (by grind [zu_at, zu_atL])) (fun o_6 ho_6 => ?_)
  refine zw_if (fun c2 => ?_) (fun c2 => ?_)
  · refine zw_zb0 (sf_X12_refuses 2 f1 (by grind [zu_at, zu_atL])) (fun o_11 ho_11 => ?_)
    refine zw_some ?_
    first | trivial | (try dsimp only); grind [zu_at, zu_atL]
  refine zw_zb0 (sf_X12_isFormat p2 f3 (by grind [zu_at, zu_atL])) (fun o_15 ho_15 => ?_)
  refine zw_if (fun c3 => ?_) (fun c3 => ?_)
  · refine zw_zb0 (sf_X12_refuses 2 f1 (by grind [zu_at, zu_atL])) (fun o_20 ho_20 => ?_)
    refine zw_some ?_
    first | trivial | (try dsimp only); grind [zu_at, zu_atL]
  refine zw_zg32 28 (by decide) (by grind [zu_at, zu_atL]) ?_
  refine zw_zb0 (sf_X12_isFree (f4 p1.toNatClampNeg) f2 f4 f5 (by grind [zu_at, zu_atL]) (by grind [zu_at, zu_atL]) (by grind [zu_at, zu_atL])) (fun o_25 ho_25 => ?_)
  refine zw_if (fun c4 => ?_) (fun c4 => ?_)
  · refine zw_zb0 (sf_X12_refuses 2 f1 (by grind [zu_at, zu_atL])) (fun o_39 ho_39 => ?_)
    refine zw_some ?_
    first | trivial | (try dsimp only); grind [zu_at, zu_atL]
  refine zw_zg32 14 (by decide) (by grind [zu_at, zu_atL]) ?_
  refine zw_zl32 (fun s_31 => (∀ i : Nat, 0 ≤ s_31.2 i ∧ s_31.2 i ≤ 3) ∧ 0 ≤ s_31.1 ∧ o_15 ≤ s_31.1 + 1 ∧ o_25 ≤ s_31.1 + 1 ∧ o_6 ≤ s_31.1 + 1 ∧ s_31.1 ≤ (f2 (0 : Int32).toNatClampNeg) ∧ v0_38 ≤ s_31.1 + 1 ∧ (∀ i : Nat, s_31.2 i = f6 i ∨ 0 ≤ s_31.2 i ∧ s_31.2 i < f3 (0 : Int32).toNatClampNeg)) (fun s_31 => 14 - s_31.1) (by (try dsimp only); grind [zu_at, zu_atL]) (by (try dsimp only); grind [zu_at, zu_atL]) (fun s_31 back_31 Hback_31 hback_31 => ?_)
  refine zw_if (fun c5 => ?_) (fun c5 => ?_)
  · refine zw_some ?_
    first | trivial | (try dsimp only); grind [zu_at, zu_atL]
  refine zw_zg32 28 (by decide) (by grind [zu_at, zu_atL]) ?_
  refine zw_zg32 28 (by decide) (by grind [zu_at, zu_atL]) ?_
  refine zw_if (fun c6 => ?_) (fun c6 => ?_)
  · refine zw_zg32 14 (by decide) (by grind [zu_at, zu_atL]) ?_
    exact hback_31 _ (by grind [zu_at, zu_atL]) (by grind [zu_at, zu_atL]) (by grind [zu_at, zu_atL])
  refine zw_zg32 14 (by decide) (by grind [zu_at, zu_atL]) ?_
  refine zw_zn (fun g_37 eg_37 => ?_)
  exact hback_31 _ (by grind [zu_at, zu_atL]) (by grind [zu_at, zu_atL]) (by grind [zu_at, zu_atL])
set_option maxHeartbeats 1000000 in
theorem sf_X12_isThere (v0_38 : Int32) (f1 : Nat → Int32) (h_v0_38 : 0 ≤ v0_38 ∧ v0_38 ≤ 1) (h_f1 : (∀ i : Nat, 0 ≤ f1 i ∧ f1 i ≤ 14)) : zw (fn_X12_isThere v0_38 f1) (fun r => 0 ≤ r ∧ r ≤ 1 ∧ r ≤ v0_38 ∧ (¬ r = 0 → (f1 (0 : Int32).toNatClampNeg) ≤ 14 ∧ (f1 (0 : Int32).toNatClampNeg) ≤ r + 13 ∧ (f1 (0 : Int32).toNatClampNeg) ≤ v0_38 + 13 ∧ 1 ≤ (f1 (0 : Int32).toNatClampNeg) ∧ 1 ≤ r ∧ 1 ≤ v0_38 ∧ r ≤ (f1 (0 : Int32).toNatClampNeg) ∧ v0_38 ≤ (f1 (0 : Int32).toNatClampNeg) ∧ v0_38 ≤ r) ∧ (r = 1 → (f1 (0 : Int32).toNatClampNeg) ≤ 14 ∧ (f1 (0 : Int32).toNatClampNeg) ≤ r + 13 ∧ (f1 (0 : Int32).toNatClampNeg) ≤ v0_38 + 13 ∧ 1 ≤ (f1 (0 : Int32).toNatClampNeg) ∧ 1 ≤ v0_38 ∧ r ≤ (f1 (0 : Int32).toNatClampNeg) ∧ v0_38 ≤ (f1 (0 : Int32).toNatClampNeg) ∧ v0_38 ≤ r) ∧ (¬ r = 1 → r ≤ 0)) := by
  unfold fn_X12_isThere
  refine zw_if (fun c1 => ?_) (fun c1 => ?_)
  · refine zw_some ?_
    first | trivial | (try dsimp only); grind [zu_at, zu_atL]
  refine zw_if (fun c2 => ?_) (fun c2 => ?_)
  · refine zw_some ?_
    first | trivial | (try dsimp only); grind [zu_at, zu_atL]
  refine zw_some ?_
  first | trivial | (try dsimp only); grind [zu_at, zu_atL]
set_option maxHeartbeats 1000000 in
theorem sf_X12_cost (v0_38 : Int32) (f1 : Nat → Int32) (f2 : Nat → Int32) (f3 : Nat → Int32) (f4 : Nat → Int32) (f5 : Nat → Int32) (f6 : Nat → Int32) (f7 : Nat → Int32) (h_v0_38 : 0 ≤ v0_38 ∧ v0_38 ≤ 1) (h_f1 : (∀ i : Nat, 0 ≤ f1 i ∧ f1 i ≤ 14)) (h_f2 : (∀ i : Nat, 0 ≤ f2 i ∧ f2 i ≤ 3)) (h_f3 : (∀ i : Nat, 0 ≤ f3 i ∧ f3 i ≤ 3)) (h_f5 : (∀ i : Nat, (-1) ≤ f5 i ∧ f5 i ≤ 13)) (h_f6 : (∀ i : Nat, (-1) ≤ f6 i ∧ f6 i ≤ 13)) : zw (fn_X12_cost v0_38 f1 f2 f3 f4 f5 f6 f7) (fun r => (∀ i : Nat, 0 ≤ r.2 i ∧ r.2 i ≤ 3) ∧ (¬ r.1 = (-1) → (f1 (0 : Int32).toNatClampNeg) ≤ 14 ∧ (f1 (0 : Int32).toNatClampNeg) ≤ v0_38 + 13 ∧ 1 ≤ (f1 (0 : Int32).toNatClampNeg) ∧ 1 ≤ v0_38 ∧ v0_38 ≤ (f1 (0 : Int32).toNatClampNeg)) ∧ (∀ i : Nat, r.2 i = f2 i ∨ r.2 i = f3 i)) := by
  unfold fn_X12_cost
  refine zw_zb0 (sf_X12_isThere v0_38 f1 (by grind [zu_at, zu_atL]) (by grind [zu_at, zu_atL])) (fun o_1 ho_1 => ?_)
  refine zw_if (fun c1 => ?_) (fun c1 => ?_)
  · refine zw_some ?_
    first | trivial | (try dsimp only); grind [zu_at, zu_atL]
  refine zw_zb0 (sf_X12_triesHand f1 f2 f3 (by grind [zu_at, zu_atL]) (by grind [zu_at, zu_atL]) (by grind [zu_at, zu_atL])) (fun o_6 ho_6 => ?_)
  refine zw_zb0 (sf_X12_costTried f4 f1 f5 o_6 f6 f7 (by grind [zu_at, zu_atL]) (by grind [zu_at, zu_atL]) (by grind [zu_at, zu_atL]) (by grind [zu_at, zu_atL])) (fun o_10 ho_10 => ?_)
  refine zw_some ?_
  first | trivial | (try dsimp only); grind [zu_at, zu_atL]
set_option maxHeartbeats 1000000 in
theorem sf_X12_casts (v0_38 : Int32) (f1 : Nat → Int32) (f2 : Nat → Int32) (f3 : Nat → Int32) (f4 : Nat → Int32) (f5 : Nat → Int32) (h_v0_38 : 0 ≤ v0_38 ∧ v0_38 ≤ 1) (h_f1 : (∀ i : Nat, 0 ≤ f1 i ∧ f1 i ≤ 14)) (h_f2 : (∀ i : Nat, 0 ≤ f2 i ∧ f2 i ≤ 3)) (h_f3 : (∀ i : Nat, 0 ≤ f3 i ∧ f3 i ≤ 3)) (h_f4 : (∀ i : Nat, (-1) ≤ f4 i ∧ f4 i ≤ 13)) (h_f5 : (∀ i : Nat, (-1) ≤ f5 i ∧ f5 i ≤ 13)) : zw (fn_X12_casts v0_38 f1 f2 f3 f4 f5) (fun r => (∀ i : Nat, 0 ≤ r.2 i ∧ r.2 i ≤ 3) ∧ (¬ r.1 = (-1) → (f1 (0 : Int32).toNatClampNeg) ≤ 14 ∧ (f1 (0 : Int32).toNatClampNeg) ≤ v0_38 + 13 ∧ 1 ≤ (f1 (0 : Int32).toNatClampNeg) ∧ 1 ≤ v0_38 ∧ v0_38 ≤ (f1 (0 : Int32).toNatClampNeg)) ∧ (∀ i : Nat, r.2 i = f2 i ∨ r.2 i = f3 i)) := by
  unfold fn_X12_casts
  refine zw_zb0 (sf_X12_isThere v0_38 f1 (by grind [zu_at, zu_atL]) (by grind [zu_at, zu_atL])) (fun o_1 ho_1 => ?_)
  refine zw_if (fun c1 => ?_) (fun c1 => ?_)
  · refine zw_some ?_
    first | trivial | (try dsimp only); grind [zu_at, zu_atL]
  refine zw_zb0 (sf_X12_triesHand f1 f2 f3 (by grind [zu_at, zu_atL]) (by grind [zu_at, zu_atL]) (by grind [zu_at, zu_atL])) (fun o_6 ho_6 => ?_)
  refine zw_zb0 (sf_X12_castsTried f1 f4 o_6 f5 (by grind [zu_at, zu_atL]) (by grind [zu_at, zu_atL]) (by grind [zu_at, zu_atL]) (by grind [zu_at, zu_atL])) (fun o_10 ho_10 => ?_)
  refine zw_some ?_
  first | trivial | (try dsimp only); grind [zu_at, zu_atL]
set_option maxHeartbeats 1000000 in
theorem sf_X12_fails (v0_33 : Int32) (w0_34 : Int64) (v0_38 : Int32) (v0_41 : Int32) (v0_42 : Int32) (f1 : Nat → Int32) (f2 : Nat → Int32) (f3 : Nat → Int32) (f4 : Nat → Int32) (f5 : Nat → Int32) (f6 : Nat → Int32) (f7 : Nat → Int64) (f8 : Nat → Int64) (f9 : Nat → Int64) (f10 : Nat → Int64) (f11 : Nat → Int32) (f12 : Nat → Int64) (f13 : Nat → Int32) (f14 : Nat → Int32) (h_v0_38 : 0 ≤ v0_38 ∧ v0_38 ≤ 1) (h_f1 : (∀ i : Nat, 0 ≤ f1 i ∧ f1 i ≤ 14)) (h_f2 : (∀ i : Nat, 0 ≤ f2 i ∧ f2 i ≤ 3)) (h_f3 : (∀ i : Nat, 0 ≤ f3 i ∧ f3 i ≤ 3)) (h_f5 : (∀ i : Nat, (-1) ≤ f5 i ∧ f5 i ≤ 13)) (h_f6 : (∀ i : Nat, (-1) ≤ f6 i ∧ f6 i ≤ 13)) (hx_0 : f1 (0 : Int32).toNatClampNeg ≤ 0 ∨ (∀ i : Nat, 1 ≤ f11 (f2 i).toNatClampNeg) ∧ (∀ i : Nat, 1 ≤ f11 (f3 i).toNatClampNeg)) : zw (fn_X12_fails v0_33 w0_34 v0_38 v0_41 v0_42 f1 f2 f3 f4 f5 f6 f7 f8 f9 f10 f11 f12 f13 f14) (fun r => (∀ i : Nat, 0 ≤ r.2.2.2.2.1 i ∧ r.2.2.2.2.1 i ≤ 3) ∧ (¬ r.1 = (-1) → (f1 (0 : Int32).toNatClampNeg) ≤ 14 ∧ (f1 (0 : Int32).toNatClampNeg) ≤ r.2.1 + 15 ∧ (f1 (0 : Int32).toNatClampNeg) ≤ v0_38 + 13 ∧ 1 ≤ (f1 (0 : Int32).toNatClampNeg) ∧ (-1) ≤ r.2.1 ∧ 1 ≤ v0_38 ∧ r.1 ≤ r.2.2.1 ∧ r.2.1 + 2 ≤ (f1 (0 : Int32).toNatClampNeg) ∧ r.2.1 ≤ (-1) ∧ r.2.1 + 2 ≤ v0_38 ∧ r.2.2.1 ≤ r.1 + 14 ∧ v0_38 ≤ (f1 (0 : Int32).toNatClampNeg) ∧ v0_38 ≤ r.2.1 + 2) ∧ (r.1 = (-2) → (f1 (0 : Int32).toNatClampNeg) ≤ 14 ∧ (f1 (0 : Int32).toNatClampNeg) ≤ r.2.1 + 15 ∧ (f1 (0 : Int32).toNatClampNeg) ≤ v0_38 + 13 ∧ 1 ≤ (f1 (0 : Int32).toNatClampNeg) ∧ (-1) ≤ r.2.1 ∧ 1 ≤ v0_38 ∧ r.1 ≤ r.2.2.1 ∧ r.2.1 + 2 ≤ (f1 (0 : Int32).toNatClampNeg) ∧ r.2.1 ≤ (-1) ∧ r.2.1 + 2 ≤ v0_38 ∧ r.2.2.1 ≤ r.1 + 14 ∧ v0_38 ≤ (f1 (0 : Int32).toNatClampNeg) ∧ v0_38 ≤ r.2.1 + 2) ∧ (∀ i : Nat, r.2.2.2.2.1 i = f2 i ∨ r.2.2.2.2.1 i = f3 i)) := by
  unfold fn_X12_fails
  refine zw_zb0 (sf_X12_isThere v0_38 f1 (by grind [zu_at, zu_atL]) (by grind [zu_at, zu_atL])) (fun o_1 ho_1 => ?_)
  refine zw_if (fun c1 => ?_) (fun c1 => ?_)
  · refine zw_some ?_
    first | trivial | (try dsimp only); grind [zu_at, zu_atL]
  refine zw_zb0 (sf_X12_handPasses w0_34 v0_38 v0_41 v0_42 f1 f2 f3 f4 f5 f6 f7 f8 f9 f10 f11 f12 f13 f14 (by grind [zu_at, zu_atL]) (by grind [zu_at, zu_atL]) (by grind [zu_at, zu_atL]) (by grind [zu_at, zu_atL]) (by grind [zu_at, zu_atL]) (by grind [zu_at, zu_atL]) (by grind [zu_at, zu_atL])) (fun o_6 ho_6 => ?_)
  refine zw_if (fun c2 => ?_) (fun c2 => ?_)
  · refine zw_some ?_
    first | trivial | (try dsimp only); grind [zu_at, zu_atL]
  refine zw_some ?_
  first | trivial | (try dsimp only); grind [zu_at, zu_atL]
set_option maxHeartbeats 1000000 in
theorem sf_X12_why (v0_33 : Int32) (w0_34 : Int64) (v0_38 : Int32) (v0_41 : Int32) (v0_42 : Int32) (f1 : Nat → Int32) (f2 : Nat → Int32) (f3 : Nat → Int32) (f4 : Nat → Int32) (f5 : Nat → Int32) (f6 : Nat → Int32) (f7 : Nat → Int64) (f8 : Nat → Int64) (f9 : Nat → Int64) (f10 : Nat → Int64) (f11 : Nat → Int32) (f12 : Nat → Int64) (f13 : Nat → Int32) (f14 : Nat → Int32) (h_v0_38 : 0 ≤ v0_38 ∧ v0_38 ≤ 1) (h_f1 : (∀ i : Nat, 0 ≤ f1 i ∧ f1 i ≤ 14)) (h_f2 : (∀ i : Nat, 0 ≤ f2 i ∧ f2 i ≤ 3)) (h_f3 : (∀ i : Nat, 0 ≤ f3 i ∧ f3 i ≤ 3)) (h_f5 : (∀ i : Nat, (-1) ≤ f5 i ∧ f5 i ≤ 13)) (h_f6 : (∀ i : Nat, (-1) ≤ f6 i ∧ f6 i ≤ 13)) (hx_0 : f1 (0 : Int32).toNatClampNeg ≤ 0 ∨ (∀ i : Nat, 1 ≤ f11 (f2 i).toNatClampNeg) ∧ (∀ i : Nat, 1 ≤ f11 (f3 i).toNatClampNeg)) : zw (fn_X12_why v0_33 w0_34 v0_38 v0_41 v0_42 f1 f2 f3 f4 f5 f6 f7 f8 f9 f10 f11 f12 f13 f14) (fun r => (∀ i : Nat, 0 ≤ r.2.2.2.2.1 i ∧ r.2.2.2.2.1 i ≤ 3) ∧ (¬ r.1 = (-1) → (f1 (0 : Int32).toNatClampNeg) ≤ 14 ∧ (f1 (0 : Int32).toNatClampNeg) ≤ r.2.1 + 15 ∧ (f1 (0 : Int32).toNatClampNeg) ≤ v0_38 + 13 ∧ 1 ≤ (f1 (0 : Int32).toNatClampNeg) ∧ (-1) ≤ r.2.1 ∧ 1 ≤ v0_38 ∧ r.1 ≤ r.2.2.2.1 ∧ r.2.1 + 2 ≤ (f1 (0 : Int32).toNatClampNeg) ∧ r.2.1 ≤ (-1) ∧ r.2.1 + 2 ≤ v0_38 ∧ r.2.2.2.1 ≤ r.1 ∧ v0_38 ≤ (f1 (0 : Int32).toNatClampNeg) ∧ v0_38 ≤ r.2.1 + 2) ∧ (r.1 = 0 → (f1 (0 : Int32).toNatClampNeg) ≤ 14 ∧ (f1 (0 : Int32).toNatClampNeg) ≤ r.2.1 + 15 ∧ (f1 (0 : Int32).toNatClampNeg) ≤ v0_38 + 13 ∧ 1 ≤ (f1 (0 : Int32).toNatClampNeg) ∧ (-1) ≤ r.2.1 ∧ 1 ≤ v0_38 ∧ r.1 ≤ r.2.2.2.1 ∧ r.2.1 + 2 ≤ (f1 (0 : Int32).toNatClampNeg) ∧ r.2.1 ≤ (-1) ∧ r.2.1 + 2 ≤ v0_38 ∧ r.2.2.2.1 ≤ r.1 ∧ v0_38 ≤ (f1 (0 : Int32).toNatClampNeg) ∧ v0_38 ≤ r.2.1 + 2) ∧ (∀ i : Nat, r.2.2.2.2.1 i = f2 i ∨ r.2.2.2.2.1 i = f3 i)) := by
  unfold fn_X12_why
  refine zw_zb0 (sf_X12_isThere v0_38 f1 (by grind [zu_at, zu_atL]) (by grind [zu_at, zu_atL])) (fun o_1 ho_1 => ?_)
  refine zw_if (fun c1 => ?_) (fun c1 => ?_)
  · refine zw_some ?_
    first | trivial | (try dsimp only); grind [zu_at, zu_atL]
  refine zw_zb0 (sf_X12_handPasses w0_34 v0_38 v0_41 v0_42 f1 f2 f3 f4 f5 f6 f7 f8 f9 f10 f11 f12 f13 f14 (by grind [zu_at, zu_atL]) (by grind [zu_at, zu_atL]) (by grind [zu_at, zu_atL]) (by grind [zu_at, zu_atL]) (by grind [zu_at, zu_atL]) (by grind [zu_at, zu_atL]) (by grind [zu_at, zu_atL])) (fun o_6 ho_6 => ?_)
  refine zw_if (fun c2 => ?_) (fun c2 => ?_)
  · refine zw_some ?_
    first | trivial | (try dsimp only); grind [zu_at, zu_atL]
  refine zw_some ?_
  first | trivial | (try dsimp only); grind [zu_at, zu_atL]
set_option maxHeartbeats 1000000 in
theorem sf_X12_error (p1 : Int32) (v0_33 : Int32) (w0_34 : Int64) (v0_38 : Int32) (v0_41 : Int32) (v0_42 : Int32) (f1 : Nat → Int32) (f2 : Nat → Int32) (f3 : Nat → Int32) (f4 : Nat → Int32) (f5 : Nat → Int32) (f6 : Nat → Int32) (f7 : Nat → Int64) (f8 : Nat → Int64) (f9 : Nat → Int64) (f10 : Nat → Int64) (f11 : Nat → Int32) (f12 : Nat → Int64) (f13 : Nat → Int32) (f14 : Nat → Int32) (h_v0_38 : 0 ≤ v0_38 ∧ v0_38 ≤ 1) (h_f1 : (∀ i : Nat, 0 ≤ f1 i ∧ f1 i ≤ 14)) (h_f2 : (∀ i : Nat, 0 ≤ f2 i ∧ f2 i ≤ 3)) (h_f3 : (∀ i : Nat, 0 ≤ f3 i ∧ f3 i ≤ 3)) (h_f5 : (∀ i : Nat, (-1) ≤ f5 i ∧ f5 i ≤ 13)) (h_f6 : (∀ i : Nat, (-1) ≤ f6 i ∧ f6 i ≤ 13)) (hx_0 : f1 (0 : Int32).toNatClampNeg ≤ 0 ∨ (∀ i : Nat, 1 ≤ f11 (f2 i).toNatClampNeg) ∧ (∀ i : Nat, 1 ≤ f11 (f3 i).toNatClampNeg)) : zw (fn_X12_error p1 v0_33 w0_34 v0_38 v0_41 v0_42 f1 f2 f3 f4 f5 f6 f7 f8 f9 f10 f11 f12 f13 f14) (fun r => (∀ i : Nat, 0 ≤ r.2.2.2.2.1 i ∧ r.2.2.2.2.1 i ≤ 3) ∧ (¬ r.1 = (-1000000000000000) → (f1 (0 : Int32).toNatClampNeg) ≤ 14 ∧ (f1 (0 : Int32).toNatClampNeg) ≤ r.2.1 + 15 ∧ (f1 (0 : Int32).toNatClampNeg) ≤ v0_38 + 13 ∧ 0 ≤ p1 ∧ (-1) ≤ r.2.1 ∧ (-2) ≤ r.2.2.1 ∧ 1 ≤ v0_38 ∧ p1 < (f1 (0 : Int32).toNatClampNeg) ∧ r.2.1 ≤ (-1) ∧ r.2.1 < p1 ∧ r.2.1 ≤ r.2.2.1 + 1 ∧ r.2.1 + 2 ≤ v0_38 ∧ v0_38 ≤ p1 + 1 ∧ v0_38 ≤ r.2.1 + 2 ∧ v0_38 ≤ r.2.2.1 + 3) ∧ (∀ i : Nat, r.2.2.2.2.1 i = f2 i ∨ r.2.2.2.2.1 i = f3 i)) := by
  unfold fn_X12_error
  refine zw_zb0 (sf_X12_isThere v0_38 f1 (by grind [zu_at, zu_atL]) (by grind [zu_at, zu_atL])) (fun o_1 ho_1 => ?_)
  refine zw_if (fun c1 => ?_) (fun c1 => ?_)
  · refine zw_some ?_
    first | trivial | (try dsimp only); grind [zu_at, zu_atL]
  refine zw_zb0 (sf_X12_isNumber p1 f1 (by grind [zu_at, zu_atL])) (fun o_6 ho_6 => ?_)
  refine zw_if (fun c2 => ?_) (fun c2 => ?_)
  · refine zw_some ?_
    first | trivial | (try dsimp only); grind [zu_at, zu_atL]
  refine zw_zb0 (sf_X12_handPasses w0_34 v0_38 v0_41 v0_42 f1 f2 f3 f4 f5 f6 f7 f8 f9 f10 f11 f12 f13 f14 (by grind [zu_at, zu_atL]) (by grind [zu_at, zu_atL]) (by grind [zu_at, zu_atL]) (by grind [zu_at, zu_atL]) (by grind [zu_at, zu_atL]) (by grind [zu_at, zu_atL]) (by grind [zu_at, zu_atL])) (fun o_11 ho_11 => ?_)
  refine zw_if (fun c3 => ?_) (fun c3 => ?_)
  · refine zw_if (fun c4 => ?_) (fun c4 => ?_)
    · refine zw_some ?_
      first | trivial | (try dsimp only); grind [zu_at, zu_atL]
    refine zw_zg32 14 (by decide) (by grind [zu_at, zu_atL]) ?_
    refine zw_some ?_
    first | trivial | (try dsimp only); grind [zu_at, zu_atL]
  refine zw_zg32 14 (by decide) (by grind [zu_at, zu_atL]) ?_
  refine zw_some ?_
  first | trivial | (try dsimp only); grind [zu_at, zu_atL]
set_option maxHeartbeats 1000000 in
theorem sf_X12_isAnswer (p1 : Int32) (f1 : Nat → Int32) (f2 : Nat → Int32) (h_f1 : (∀ i : Nat, 0 ≤ f1 i ∧ f1 i ≤ 14)) : zw (fn_X12_isAnswer p1 f1 f2) (fun r => 0 ≤ r ∧ r ≤ 1 ∧ r ≤ (f1 (0 : Int32).toNatClampNeg) ∧ (¬ r = 0 → (f1 (0 : Int32).toNatClampNeg) ≤ r + 13 ∧ 0 ≤ p1 ∧ 1 ≤ r ∧ p1 < (f1 (0 : Int32).toNatClampNeg) ∧ r ≤ p1 + 1) ∧ (r = 1 → (f1 (0 : Int32).toNatClampNeg) ≤ r + 13 ∧ 0 ≤ p1 ∧ p1 < (f1 (0 : Int32).toNatClampNeg) ∧ r ≤ p1 + 1) ∧ (¬ r = 1 → r ≤ 0)) := by
  unfold fn_X12_isAnswer
  refine zw_zb0 (sf_X12_isNumber p1 f1 (by grind [zu_at, zu_atL])) (fun o_1 ho_1 => ?_)
  refine zw_if (fun c1 => ?_) (fun c1 => ?_)
  · refine zw_some ?_
    first | trivial | (try dsimp only); grind [zu_at, zu_atL]
  refine zw_zg32 28 (by decide) (by grind [zu_at, zu_atL]) ?_
  refine zw_if (fun c2 => ?_) (fun c2 => ?_)
  · refine zw_some ?_
    first | trivial | (try dsimp only); grind [zu_at, zu_atL]
  refine zw_some ?_
  first | trivial | (try dsimp only); grind [zu_at, zu_atL]
set_option maxHeartbeats 1000000 in
theorem sf_X12_slack (p1 : Int32) (v0_33 : Int32) (w0_34 : Int64) (v0_38 : Int32) (v0_41 : Int32) (v0_42 : Int32) (f1 : Nat → Int32) (f2 : Nat → Int32) (f3 : Nat → Int32) (f4 : Nat → Int32) (f5 : Nat → Int32) (f6 : Nat → Int32) (f7 : Nat → Int32) (f8 : Nat → Int64) (f9 : Nat → Int64) (f10 : Nat → Int64) (f11 : Nat → Int64) (f12 : Nat → Int32) (f13 : Nat → Int64) (f14 : Nat → Int32) (h_v0_38 : 0 ≤ v0_38 ∧ v0_38 ≤ 1) (h_f1 : (∀ i : Nat, 0 ≤ f1 i ∧ f1 i ≤ 14)) (h_f3 : (∀ i : Nat, 0 ≤ f3 i ∧ f3 i ≤ 3)) (h_f4 : (∀ i : Nat, 0 ≤ f4 i ∧ f4 i ≤ 3)) (h_f6 : (∀ i : Nat, (-1) ≤ f6 i ∧ f6 i ≤ 13)) (h_f7 : (∀ i : Nat, (-1) ≤ f7 i ∧ f7 i ≤ 13)) (hx_0 : f1 (0 : Int32).toNatClampNeg ≤ 0 ∨ (∀ i : Nat, 1 ≤ f12 (f3 i).toNatClampNeg) ∧ (∀ i : Nat, 1 ≤ f12 (f4 i).toNatClampNeg)) : zw (fn_X12_slack p1 v0_33 w0_34 v0_38 v0_41 v0_42 f1 f2 f3 f4 f5 f6 f7 f8 f9 f10 f11 f12 f13 f14) (fun r => (∀ i : Nat, 0 ≤ r.2.2.2.2.1 i ∧ r.2.2.2.2.1 i ≤ 3) ∧ (¬ r.1 = (-1000000000000000) → (f1 (0 : Int32).toNatClampNeg) ≤ r.2.1 + 15 ∧ (f1 (0 : Int32).toNatClampNeg) ≤ r.2.2.2.1 + 14 ∧ (f1 (0 : Int32).toNatClampNeg) ≤ v0_38 + 13 ∧ 0 ≤ p1 ∧ (-1) ≤ r.2.1 ∧ (-2) ≤ r.2.2.1 ∧ 0 ≤ r.2.2.2.1 ∧ 1 ≤ v0_38 ∧ p1 < (f1 (0 : Int32).toNatClampNeg) ∧ r.2.1 ≤ (-1) ∧ r.2.1 < p1 ∧ r.2.1 ≤ r.2.2.1 + 1 ∧ r.2.1 < r.2.2.2.1 ∧ r.2.1 + 2 ≤ v0_38 ∧ r.2.2.1 ≤ 12 ∧ r.2.2.1 ≤ r.2.1 + 13 ∧ r.2.2.1 ≤ r.2.2.2.1 + 12 ∧ r.2.2.1 ≤ v0_38 + 11 ∧ r.2.2.2.1 ≤ 0 ∧ r.2.2.2.1 ≤ p1 ∧ r.2.2.2.1 ≤ r.2.1 + 1 ∧ r.2.2.2.1 ≤ r.2.2.1 + 2 ∧ r.2.2.2.1 < v0_38 ∧ v0_38 ≤ p1 + 1 ∧ v0_38 ≤ r.2.1 + 2 ∧ v0_38 ≤ r.2.2.1 + 3 ∧ v0_38 ≤ r.2.2.2.1 + 1) ∧ (∀ i : Nat, r.2.2.2.2.1 i = f3 i ∨ r.2.2.2.2.1 i = f4 i)) := by
  unfold fn_X12_slack
  refine zw_zb0 (sf_X12_isAnswer p1 f1 f2 (by grind [zu_at, zu_atL])) (fun o_1 ho_1 => ?_)
  refine zw_if (fun c1 => ?_) (fun c1 => ?_)
  · refine zw_some ?_
    first | trivial | (try dsimp only); grind [zu_at, zu_atL]
  refine zw_zb0 (sf_X12_handPasses w0_34 v0_38 v0_41 v0_42 f1 f3 f4 f5 f6 f7 f8 f9 f10 f11 f12 f13 f14 f2 (by grind [zu_at, zu_atL]) (by grind [zu_at, zu_atL]) (by grind [zu_at, zu_atL]) (by grind [zu_at, zu_atL]) (by grind [zu_at, zu_atL]) (by grind [zu_at, zu_atL]) (by grind [zu_at, zu_atL])) (fun o_6 ho_6 => ?_)
  refine zw_if (fun c2 => ?_) (fun c2 => ?_)
  · refine zw_some ?_
    first | trivial | (try dsimp only); grind [zu_at, zu_atL]
  refine zw_zg32 28 (by decide) (by grind [zu_at, zu_atL]) ?_
  refine zw_zg32 14 (by decide) (by grind [zu_at, zu_atL]) ?_
  refine zw_some ?_
  first | trivial | (try dsimp only); grind [zu_at, zu_atL]
set_option maxHeartbeats 1000000 in
theorem sf_X12_widest (p1 : Int32) (v0_33 : Int32) (w0_34 : Int64) (v0_38 : Int32) (v0_41 : Int32) (v0_42 : Int32) (f1 : Nat → Int32) (f2 : Nat → Int32) (f3 : Nat → Int32) (f4 : Nat → Int32) (f5 : Nat → Int32) (f6 : Nat → Int32) (f7 : Nat → Int64) (f8 : Nat → Int64) (f9 : Nat → Int64) (f10 : Nat → Int64) (f11 : Nat → Int32) (f12 : Nat → Int64) (f13 : Nat → Int32) (f14 : Nat → Int32) (h_v0_38 : 0 ≤ v0_38 ∧ v0_38 ≤ 1) (h_f1 : (∀ i : Nat, 0 ≤ f1 i ∧ f1 i ≤ 14)) (h_f3 : (∀ i : Nat, 0 ≤ f3 i ∧ f3 i ≤ 3)) (h_f4 : (∀ i : Nat, 0 ≤ f4 i ∧ f4 i ≤ 3)) (h_f5 : (∀ i : Nat, (-1) ≤ f5 i ∧ f5 i ≤ 13)) (h_f6 : (∀ i : Nat, (-1) ≤ f6 i ∧ f6 i ≤ 13)) (hx_0 : f1 (0 : Int32).toNatClampNeg ≤ 0 ∨ (∀ i : Nat, 1 ≤ f11 (f3 i).toNatClampNeg) ∧ (∀ i : Nat, 1 ≤ f11 (f4 i).toNatClampNeg)) : zw (fn_X12_widest p1 v0_33 w0_34 v0_38 v0_41 v0_42 f1 f2 f3 f4 f5 f6 f7 f8 f9 f10 f11 f12 f13 f14) (fun r => (∀ i : Nat, 0 ≤ r.2.2.2.2.2.1 i ∧ r.2.2.2.2.2.1 i ≤ 3) ∧ (-1) ≤ r.1 ∧ (r.1 = (-1) → r.1 < (f1 (0 : Int32).toNatClampNeg) ∧ r.1 < v0_38 ∧ r.2.2.1 ≤ w0_34 ∧ w0_34 ≤ r.2.2.1) ∧ (¬ r.1 = (-1) → (f1 (0 : Int32).toNatClampNeg) ≤ (f2 p1.toNatClampNeg) + 14 ∧ (f1 (0 : Int32).toNatClampNeg) ≤ r.2.1 + 15 ∧ (f1 (0 : Int32).toNatClampNeg) ≤ v0_38 + 13 ∧ (f2 p1.toNatClampNeg) ≤ 0 ∧ (f2 p1.toNatClampNeg) ≤ p1 ∧ (f2 p1.toNatClampNeg) ≤ r.1 ∧ (f2 p1.toNatClampNeg) ≤ r.2.1 + 1 ∧ (f2 p1.toNatClampNeg) ≤ r.2.2.2.2.1 ∧ (f2 p1.toNatClampNeg) < v0_38 ∧ 0 ≤ (f2 p1.toNatClampNeg) ∧ 0 ≤ p1 ∧ 0 ≤ r.1 ∧ (-1) ≤ r.2.1 ∧ 0 ≤ r.2.2.2.2.1 ∧ 1 ≤ v0_38 ∧ p1 < (f1 (0 : Int32).toNatClampNeg) ∧ r.2.1 < (f2 p1.toNatClampNeg) ∧ r.2.1 ≤ (-1) ∧ r.2.1 < p1 ∧ r.2.1 < r.1 ∧ r.2.1 < r.2.2.2.2.1 ∧ r.2.1 + 2 ≤ v0_38 ∧ r.2.2.2.1 ≤ (f2 p1.toNatClampNeg) + 13 ∧ r.2.2.2.1 ≤ 13 ∧ r.2.2.2.1 ≤ r.2.1 + 14 ∧ r.2.2.2.1 ≤ r.2.2.2.2.1 + 12 ∧ r.2.2.2.1 ≤ v0_38 + 12 ∧ r.2.2.2.2.1 ≤ (f2 p1.toNatClampNeg) + 2 ∧ r.2.2.2.2.1 ≤ 2 ∧ r.2.2.2.2.1 ≤ r.2.1 + 3 ∧ r.2.2.2.2.1 ≤ r.2.2.2.1 + 2 ∧ r.2.2.2.2.1 ≤ v0_38 + 1 ∧ v0_38 ≤ (f2 p1.toNatClampNeg) + 1 ∧ v0_38 ≤ p1 + 1 ∧ v0_38 ≤ r.1 + 1 ∧ v0_38 ≤ r.2.1 + 2 ∧ v0_38 ≤ r.2.2.2.2.1 + 1) ∧ (∀ i : Nat, r.2.2.2.2.2.1 i = f3 i ∨ r.2.2.2.2.2.1 i = f4 i)) := by
  unfold fn_X12_widest
  refine zw_zb0 (sf_X12_isNumber p1 f1 (by grind [zu_at, zu_atL, zhalf])) (fun o_1 ho_1 => ?_)
  refine zw_if (fun c1 => ?_) (fun c1 => ?_)
  · refine zw_some ?_
    first | trivial | (try dsimp only); grind [zu_at, zu_atL, zhalf]
  refine zw_zg32 28 (by decide) (by grind [zu_at, zu_atL, zhalf]) ?_
  refine zw_if (fun c2 => ?_) (fun c2 => ?_)
  · refine zw_zb0 (sf_X12_handPasses w0_34 v0_38 v0_41 v0_42 f1 f3 f4 f2 f5 f6 f7 f8 f9 f10 f11 f12 f13 f14 (by grind [zu_at, zu_atL, zhalf]) (by grind [zu_at, zu_atL, zhalf]) (by grind [zu_at, zu_atL, zhalf]) (by grind [zu_at, zu_atL, zhalf]) (by grind [zu_at, zu_atL, zhalf]) (by grind [zu_at, zu_atL, zhalf]) (by grind [zu_at, zu_atL, zhalf])) (fun o_8 ho_8 => ?_)
    refine zw_if (fun c3 => ?_) (fun c3 => ?_)
    · refine zw_some ?_
      first | trivial | (try dsimp only); grind [zu_at, zu_atL, zhalf]
    refine zw_zl32 (fun s_13 => (f2 p1.toNatClampNeg) ≤ s_13.1 ∧ (f2 p1.toNatClampNeg) ≤ s_13.2.1 ∧ (f2 p1.toNatClampNeg) ≤ s_13.2.2.2.2.1 ∧ 0 ≤ s_13.1 ∧ 0 ≤ s_13.2.1 ∧ 0 ≤ s_13.2.2.2.2.1 ∧ o_1 ≤ s_13.1 + 1 ∧ o_1 ≤ s_13.2.1 + 1 ∧ o_1 ≤ s_13.2.2.2.2.1 + 1 ∧ o_8.1 ≤ s_13.1 + 1 ∧ o_8.1 ≤ s_13.2.1 + 1 ∧ o_8.1 ≤ s_13.2.2.2.2.1 + 1 ∧ o_8.2.1 < s_13.1 ∧ o_8.2.1 < s_13.2.1 ∧ o_8.2.1 < s_13.2.2.2.2.1 ∧ o_8.2.2.2.1 ≤ s_13.1 ∧ o_8.2.2.2.1 ≤ s_13.2.1 ∧ o_8.2.2.2.1 ≤ s_13.2.2.2.2.1 ∧ s_13.1 ≤ 10000000 ∧ s_13.2.1 ≤ 10000000 ∧ s_13.2.2.2.1 ≤ (f2 p1.toNatClampNeg) + 13 ∧ s_13.2.2.2.1 ≤ 13 ∧ s_13.2.2.2.1 ≤ o_1 + 12 ∧ s_13.2.2.2.1 ≤ o_8.1 + 12 ∧ s_13.2.2.2.1 ≤ o_8.2.1 + 14 ∧ s_13.2.2.2.1 ≤ o_8.2.2.2.1 + 13 ∧ s_13.2.2.2.1 ≤ s_13.2.2.2.2.1 + 12 ∧ s_13.2.2.2.1 ≤ v0_38 + 12 ∧ s_13.2.2.2.2.1 ≤ (f2 p1.toNatClampNeg) + 2 ∧ s_13.2.2.2.2.1 ≤ 2 ∧ s_13.2.2.2.2.1 ≤ o_1 + 1 ∧ s_13.2.2.2.2.1 ≤ o_8.1 + 1 ∧ s_13.2.2.2.2.1 ≤ o_8.2.1 + 3 ∧ s_13.2.2.2.2.1 ≤ o_8.2.2.2.1 + 2 ∧ s_13.2.2.2.2.1 ≤ s_13.2.2.2.1 + 2 ∧ s_13.2.2.2.2.1 ≤ v0_38 + 1 ∧ v0_38 ≤ s_13.1 + 1 ∧ v0_38 ≤ s_13.2.1 + 1 ∧ v0_38 ≤ s_13.2.2.2.2.1 + 1 ∧ s_13.1 ≤ s_13.2.1) (fun s_13 => s_13.2.1 - s_13.1) (by (try dsimp only); grind [zu_at, zu_atL, zhalf]) (by (try dsimp only); grind [zu_at, zu_atL, zhalf]) (fun s_13 back_13 Hback_13 hback_13 => ?_)
    refine zw_if (fun c4 => ?_) (fun c4 => ?_)
    · refine zw_some ?_
      first | trivial | (try dsimp only); grind [zu_at, zu_atL, zhalf]
    refine zw_zb0 (sf_X12_passes p1 ((s_13.1 + (((s_13.2.1 - s_13.1) + 1) / 2)).toInt64) f1 f2 f5 f6 s_13.2.2.2.2.2.1 f8 f9 s_13.2.2.2.2.2.2.1 o_8.2.2.2.2.1 f11 s_13.2.2.2.2.2.2.2 f13 f14 (by grind [zu_at, zu_atL, zhalf]) (by grind [zu_at, zu_atL, zhalf]) (by grind [zu_at, zu_atL, zhalf]) (by grind [zu_at, zu_atL, zhalf]) (by grind [zu_at, zu_atL, zhalf])) (fun o_15 ho_15 => ?_)
    refine zw_if (fun c5 => ?_) (fun c5 => ?_)
    · exact hback_13 _ (by grind [zu_at, zu_atL, zhalf]) (by grind [zu_at, zu_atL, zhalf]) (by grind [zu_at, zu_atL, zhalf])
    exact hback_13 _ (by grind [zu_at, zu_atL, zhalf]) (by grind [zu_at, zu_atL, zhalf]) (by grind [zu_at, zu_atL, zhalf])
  refine zw_some ?_
  first | trivial | (try dsimp only); grind [zu_at, zu_atL, zhalf]
set_option maxHeartbeats 1000000 in
theorem sf_X12_finest (f1 : Nat → Int32) (f2 : Nat → Int32) (h_f1 : (∀ i : Nat, 0 ≤ f1 i ∧ f1 i ≤ 4)) (hr_0 : 1 ≤ (f1 (0 : Int32).toNatClampNeg)) (hx_0 : (∀ x : Int32, 0 ≤ x → x < f1 (0 : Int32).toNatClampNeg → 1 ≤ f2 x.toNatClampNeg)) : zw (fn_X12_finest f1 f2) (fun r => 0 ≤ r ∧ r < (f1 (0 : Int32).toNatClampNeg)) := by
  unfold fn_X12_finest
  refine zw_zl32 (fun s_1 => 0 ≤ s_1.1 ∧ s_1.1 < s_1.2 ∧ s_1.2 ≤ (f1 (0 : Int32).toNatClampNeg) ∧ s_1.2 ≤ 4) (fun s_1 => 4 - s_1.2) (by (try dsimp only); grind [zu_at, zu_atL]) (by (try dsimp only); grind [zu_at, zu_atL]) (fun s_1 back_1 Hback_1 hback_1 => ?_)
  refine zw_if (fun c1 => ?_) (fun c1 => ?_)
  · refine zw_some ?_
    first | trivial | (try dsimp only); grind [zu_at, zu_atL]
  refine zw_zg32 8 (by decide) (by grind [zu_at, zu_atL]) ?_
  refine zw_zg32 8 (by decide) (by grind [zu_at, zu_atL]) ?_
  refine zw_if (fun c2 => ?_) (fun c2 => ?_)
  · exact hback_1 _ (by grind [zu_at, zu_atL]) (by grind [zu_at, zu_atL]) (by grind [zu_at, zu_atL])
  exact hback_1 _ (by grind [zu_at, zu_atL]) (by grind [zu_at, zu_atL]) (by grind [zu_at, zu_atL])
