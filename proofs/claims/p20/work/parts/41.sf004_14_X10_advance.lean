set_option maxHeartbeats 4000000 in
set_option maxRecDepth 100000 in
theorem sf_X10_advance (v0_2 : Int32) (v0_3 : Int32) (v0_4 : Int32) (f1 : Nat → Int32) (f2 : Nat → Int32) (h_v0_2 : 0 ≤ v0_2 ∧ v0_2 ≤ 1200) (h_v0_3 : 0 ≤ v0_3 ∧ v0_3 ≤ 1200) (h_v0_4 : 0 ≤ v0_4 ∧ v0_4 ≤ 5) : zw (fn_X10_advance v0_2 v0_3 v0_4 f1 f2) (fun r => 0 ≤ r.1 ∧ r.1 ≤ 1200 ∧ 0 ≤ r.2.1 ∧ r.2.1 ≤ 5 ∧ 0 ≤ r.2.2.1 ∧ r.2.2.1 ≤ 1200 ∧ (-1) ≤ r.2.2.2.2 ∧ r.2.2.2.2 ≤ 12) := by
  unfold fn_X10_advance
  refine zw_zj (fun s_1 => 0 ≤ s_1 ∧ s_1 ≤ 1 ∧ s_1 ≤ v0_4) (fun s_1 Hj_1 => ?_) (fun j_1 hj_1 => ?_)
  · obtain ⟨Hj_1_0, Hj_1_1, Hj_1_2⟩ := Hj_1
    refine zw_zl32 (fun s_2 => 0 ≤ s_2 ∧ s_2 ≤ 1200 ∧ v0_3 ≤ s_2) (fun s_2 => 1200 - s_2) (by (try dsimp only); first | with_reducible assumption | grind [zu_at, zu_atL, zvn] | ((repeat' apply And.intro) <;> first | with_reducible assumption | first | lia | grind [zu_at, zu_atL, zvn])) (by (try dsimp only); first | lia | grind [zu_at, zu_atL, zvn]) (fun s_2 back_2 Hback_2 hback_2 => ?_)
    obtain ⟨Hback_2_0, Hback_2_1, Hback_2_2⟩ := Hback_2
    refine zw_zj (fun _ => True) (fun s_3 Hj_3 => ?_) (fun j_3 hj_3 => ?_)
    · refine zw_zj (fun s_4 => 0 ≤ s_4 ∧ s_4 ≤ 5 ∧ s_4 ≤ v0_2 + 4) (fun s_4 Hj_4 => ?_) (fun j_4 hj_4 => ?_)
      · obtain ⟨Hj_4_0, Hj_4_1, Hj_4_2⟩ := Hj_4
        refine zw_zl32 (fun s_5 => 0 ≤ s_5.1 ∧ s_5.1 ≤ 1200 ∧ 0 ≤ s_5.2.1 ∧ s_5.2.1 ≤ 1200 ∧ s_5.1 ≤ v0_2 ∧ s_2 ≤ s_5.2.1 ∧ s_5.1 ≤ s_5.2.1) (fun s_5 => 1200 - s_5.1) (by (try dsimp only); first | with_reducible assumption | grind [zu_at, zu_atL, zvn] | ((repeat' apply And.intro) <;> first | with_reducible assumption | first | lia | grind [zu_at, zu_atL, zvn])) (by (try dsimp only); first | lia | grind [zu_at, zu_atL, zvn]) (fun s_5 back_5 Hback_5 hback_5 => ?_)
        obtain ⟨s_5_0, s_5_1, s_5_2⟩ := s_5
        try dsimp only at Hback_5 hback_5
        obtain ⟨Hback_5_0, Hback_5_1, Hback_5_2, Hback_5_3, Hback_5_4, Hback_5_5, Hback_5_6⟩ := Hback_5
        refine zw_zj (fun _ => True) (fun s_6 Hj_6 => ?_) (fun j_6 hj_6 => ?_)
        · refine zw_zj (fun s_7 => 0 ≤ s_7 ∧ s_7 ≤ 1 ∧ s_7 ≤ s_1 ∧ s_7 ≤ s_4) (fun s_7 Hj_7 => ?_) (fun j_7 hj_7 => ?_)
          · obtain ⟨Hj_7_0, Hj_7_1, Hj_7_2, Hj_7_3⟩ := Hj_7
            refine zw_zj (fun s_8 => 0 ≤ s_8 ∧ s_8 ≤ 5 ∧ s_7 ≤ s_8 ∧ s_4 ≤ s_8 + 1 ∧ s_8 ≤ s_4 + 3 ∧ s_8 ≤ v0_2 + 4) (fun s_8 Hj_8 => ?_) (fun j_8 hj_8 => ?_)
            · obtain ⟨Hj_8_0, Hj_8_1, Hj_8_2, Hj_8_3, Hj_8_4, Hj_8_5⟩ := Hj_8
              refine zw_if (fun c1 => ?_) (fun c1 => ?_)
              · refine zw_zb0 (sf_X10_findOwn s_5_2 f2) (fun o_10 ho_10 => ?_)
                obtain ⟨ho_10_0, ho_10_1⟩ := ho_10
                refine zw_some ?_
                first | exact True.intro | ((try dsimp only); first | with_reducible assumption | grind [zu_at, zu_atL, zvn] | ((repeat' apply And.intro) <;> first | with_reducible assumption | first | lia | grind [zu_at, zu_atL, zvn]))
              refine zw_some ?_
              first | exact True.intro | ((try dsimp only); first | with_reducible assumption | grind [zu_at, zu_atL, zvn] | ((repeat' apply And.intro) <;> first | with_reducible assumption | first | lia | grind [zu_at, zu_atL, zvn]))
            refine zw_zj (fun _ => 1 ≤ s_4 ∧ s_4 ≤ s_1 + 4 ∧ s_4 ≤ s_7 + 4) (fun s_14 Hj_14 => ?_) (fun j_14 hj_14 => ?_)
            · obtain ⟨Hj_14_0, Hj_14_1, Hj_14_2⟩ := Hj_14
              exact hj_8 _ (by first | exact True.intro | ((try dsimp only); first | with_reducible assumption | grind [zu_at, zu_atL, zvn] | ((repeat' apply And.intro) <;> first | with_reducible assumption | first | lia | grind [zu_at, zu_atL, zvn])))
            refine zw_if (fun c2 => ?_) (fun c2 => ?_)
            · refine zw_zj (fun _ => True) (fun s_16 Hj_16 => ?_) (fun j_16 hj_16 => ?_)
              · refine zw_if (fun c3 => ?_) (fun c3 => ?_)
                · refine zw_if (fun c4 => ?_) (fun c4 => ?_)
                  · exact hj_8 _ (by first | exact True.intro | ((try dsimp only); first | with_reducible assumption | grind [zu_at, zu_atL, zvn] | ((repeat' apply And.intro) <;> first | with_reducible assumption | first | lia | grind [zu_at, zu_atL, zvn])))
                  exact hj_14 _ (by first | exact True.intro | ((try dsimp only); first | with_reducible assumption | grind [zu_at, zu_atL, zvn] | ((repeat' apply And.intro) <;> first | with_reducible assumption | first | lia | grind [zu_at, zu_atL, zvn])))
                exact hj_8 _ (by first | exact True.intro | ((try dsimp only); first | with_reducible assumption | grind [zu_at, zu_atL, zvn] | ((repeat' apply And.intro) <;> first | with_reducible assumption | first | lia | grind [zu_at, zu_atL, zvn])))
              refine zw_if (fun c5 => ?_) (fun c5 => ?_)
              · refine zw_if (fun c6 => ?_) (fun c6 => ?_)
                · exact hj_14 _ (by first | exact True.intro | ((try dsimp only); first | with_reducible assumption | grind [zu_at, zu_atL, zvn] | ((repeat' apply And.intro) <;> first | with_reducible assumption | first | lia | grind [zu_at, zu_atL, zvn])))
                exact hj_16 _ (by first | exact True.intro | ((try dsimp only); first | with_reducible assumption | grind [zu_at, zu_atL, zvn] | ((repeat' apply And.intro) <;> first | with_reducible assumption | first | lia | grind [zu_at, zu_atL, zvn])))
              exact hj_16 _ (by first | exact True.intro | ((try dsimp only); first | with_reducible assumption | grind [zu_at, zu_atL, zvn] | ((repeat' apply And.intro) <;> first | with_reducible assumption | first | lia | grind [zu_at, zu_atL, zvn])))
            exact hj_14 _ (by first | exact True.intro | ((try dsimp only); first | with_reducible assumption | grind [zu_at, zu_atL, zvn] | ((repeat' apply And.intro) <;> first | with_reducible assumption | first | lia | grind [zu_at, zu_atL, zvn])))
          refine zw_zj (fun _ => True) (fun s_21 Hj_21 => ?_) (fun j_21 hj_21 => ?_)
          · exact hj_7 _ (by first | exact True.intro | ((try dsimp only); first | with_reducible assumption | grind [zu_at, zu_atL, zvn] | ((repeat' apply And.intro) <;> first | with_reducible assumption | first | lia | grind [zu_at, zu_atL, zvn])))
          refine zw_if (fun c7 => ?_) (fun c7 => ?_)
          · exact hj_21 _ (by first | exact True.intro | ((try dsimp only); first | with_reducible assumption | grind [zu_at, zu_atL, zvn] | ((repeat' apply And.intro) <;> first | with_reducible assumption | first | lia | grind [zu_at, zu_atL, zvn])))
          refine zw_if (fun c8 => ?_) (fun c8 => ?_)
          · refine zw_zj (fun _ => 1 ≤ s_4 ∧ s_4 ≤ 2) (fun s_24 Hj_24 => ?_) (fun j_24 hj_24 => ?_)
            · obtain ⟨Hj_24_0, Hj_24_1⟩ := Hj_24
              exact hj_7 _ (by first | exact True.intro | ((try dsimp only); first | with_reducible assumption | grind [zu_at, zu_atL, zvn] | ((repeat' apply And.intro) <;> first | with_reducible assumption | first | lia | grind [zu_at, zu_atL, zvn])))
            refine zw_if (fun c9 => ?_) (fun c9 => ?_)
            · exact hj_24 _ (by first | exact True.intro | ((try dsimp only); first | with_reducible assumption | grind [zu_at, zu_atL, zvn] | ((repeat' apply And.intro) <;> first | with_reducible assumption | first | lia | grind [zu_at, zu_atL, zvn])))
            refine zw_if (fun c10 => ?_) (fun c10 => ?_)
            · exact hj_24 _ (by first | exact True.intro | ((try dsimp only); first | with_reducible assumption | grind [zu_at, zu_atL, zvn] | ((repeat' apply And.intro) <;> first | with_reducible assumption | first | lia | grind [zu_at, zu_atL, zvn])))
            exact hj_21 _ (by first | exact True.intro | ((try dsimp only); first | with_reducible assumption | grind [zu_at, zu_atL, zvn] | ((repeat' apply And.intro) <;> first | with_reducible assumption | first | lia | grind [zu_at, zu_atL, zvn])))
          exact hj_21 _ (by first | exact True.intro | ((try dsimp only); first | with_reducible assumption | grind [zu_at, zu_atL, zvn] | ((repeat' apply And.intro) <;> first | with_reducible assumption | first | lia | grind [zu_at, zu_atL, zvn])))
        refine zw_if (fun c11 => ?_) (fun c11 => ?_)
        · exact hj_6 _ (by first | exact True.intro | ((try dsimp only); first | with_reducible assumption | grind [zu_at, zu_atL, zvn] | ((repeat' apply And.intro) <;> first | with_reducible assumption | first | lia | grind [zu_at, zu_atL, zvn])))
        refine zw_zg32 1200 (by decide) (by (try dsimp only); first | lia | grind [zu_at, zu_atL, zvn]) ?_
        refine zw_zb0 (sf_X10_kindOf (f1 s_5_1.toNatClampNeg)) (fun o_29 ho_29 => ?_)
        obtain ⟨ho_29_0, ho_29_1⟩ := ho_29
        refine zw_if (fun c12 => ?_) (fun c12 => ?_)
        · refine zw_zj (fun _ => True) (fun s_34 Hj_34 => ?_) (fun j_34 hj_34 => ?_)
          · refine zw_zg32 1200 (by decide) (by (try dsimp only); first | lia | grind [zu_at, zu_atL, zvn]) ?_
            refine zw_zb0 (sf_X10_addByte (f1 s_5_1.toNatClampNeg) (s_5_0 + 1) s_4 s_5_2 (by first | with_reducible assumption | exact ⟨by with_reducible assumption, by with_reducible assumption⟩ | first | lia | grind [zu_at, zu_atL, zvn])) (fun o_36 ho_36 => ?_)
            exact hback_5 _ (by (try dsimp only); first | with_reducible assumption | grind [zu_at, zu_atL, zvn] | ((repeat' apply And.intro) <;> first | with_reducible assumption | first | lia | grind [zu_at, zu_atL, zvn])) (by (try dsimp only); first | lia | grind [zu_at, zu_atL, zvn]) (by (try dsimp only); first | lia | grind [zu_at, zu_atL, zvn])
          refine zw_if (fun c13 => ?_) (fun c13 => ?_)
          · refine zw_if (fun c14 => ?_) (fun c14 => ?_)
            · exact hj_34 _ (by first | exact True.intro | ((try dsimp only); first | with_reducible assumption | grind [zu_at, zu_atL, zvn] | ((repeat' apply And.intro) <;> first | with_reducible assumption | first | lia | grind [zu_at, zu_atL, zvn])))
            exact hj_6 _ (by first | exact True.intro | ((try dsimp only); first | with_reducible assumption | grind [zu_at, zu_atL, zvn] | ((repeat' apply And.intro) <;> first | with_reducible assumption | first | lia | grind [zu_at, zu_atL, zvn])))
          exact hj_34 _ (by first | exact True.intro | ((try dsimp only); first | with_reducible assumption | grind [zu_at, zu_atL, zvn] | ((repeat' apply And.intro) <;> first | with_reducible assumption | first | lia | grind [zu_at, zu_atL, zvn])))
        exact hj_6 _ (by first | exact True.intro | ((try dsimp only); first | with_reducible assumption | grind [zu_at, zu_atL, zvn] | ((repeat' apply And.intro) <;> first | with_reducible assumption | first | lia | grind [zu_at, zu_atL, zvn])))
      refine zw_if (fun c15 => ?_) (fun c15 => ?_)
      · exact hj_4 _ (by first | exact True.intro | ((try dsimp only); first | with_reducible assumption | grind [zu_at, zu_atL, zvn] | ((repeat' apply And.intro) <;> first | with_reducible assumption | first | lia | grind [zu_at, zu_atL, zvn])))
      refine zw_zg32 1200 (by decide) (by (try dsimp only); first | lia | grind [zu_at, zu_atL, zvn]) ?_
      refine zw_zb0 (sf_X10_kindOf (f1 s_2.toNatClampNeg)) (fun o_44 ho_44 => ?_)
      obtain ⟨ho_44_0, ho_44_1⟩ := ho_44
      exact hj_4 _ (by first | exact True.intro | ((try dsimp only); first | with_reducible assumption | grind [zu_at, zu_atL, zvn] | ((repeat' apply And.intro) <;> first | with_reducible assumption | first | lia | grind [zu_at, zu_atL, zvn])))
    refine zw_if (fun c16 => ?_) (fun c16 => ?_)
    · exact hj_3 _ (by first | exact True.intro | ((try dsimp only); first | with_reducible assumption | grind [zu_at, zu_atL, zvn] | ((repeat' apply And.intro) <;> first | with_reducible assumption | first | lia | grind [zu_at, zu_atL, zvn])))
    refine zw_zg32 1200 (by decide) (by (try dsimp only); first | lia | grind [zu_at, zu_atL, zvn]) ?_
    refine zw_zb0 (sf_X10_kindOf (f1 s_2.toNatClampNeg)) (fun o_50 ho_50 => ?_)
    obtain ⟨ho_50_0, ho_50_1⟩ := ho_50
    refine zw_if (fun c17 => ?_) (fun c17 => ?_)
    · exact hback_2 _ (by (try dsimp only); first | with_reducible assumption | grind [zu_at, zu_atL, zvn] | ((repeat' apply And.intro) <;> first | with_reducible assumption | first | lia | grind [zu_at, zu_atL, zvn])) (by (try dsimp only); first | lia | grind [zu_at, zu_atL, zvn]) (by (try dsimp only); first | lia | grind [zu_at, zu_atL, zvn])
    exact hj_3 _ (by first | exact True.intro | ((try dsimp only); first | with_reducible assumption | grind [zu_at, zu_atL, zvn] | ((repeat' apply And.intro) <;> first | with_reducible assumption | first | lia | grind [zu_at, zu_atL, zvn])))
  refine zw_zj (fun _ => 1 ≤ v0_4 ∧ v0_4 ≤ 2) (fun s_55 Hj_55 => ?_) (fun j_55 hj_55 => ?_)
  · obtain ⟨Hj_55_0, Hj_55_1⟩ := Hj_55
    exact hj_1 _ (by first | exact True.intro | ((try dsimp only); first | with_reducible assumption | grind [zu_at, zu_atL, zvn] | ((repeat' apply And.intro) <;> first | with_reducible assumption | first | lia | grind [zu_at, zu_atL, zvn])))
  refine zw_if (fun c18 => ?_) (fun c18 => ?_)
  · exact hj_55 _ (by first | exact True.intro | ((try dsimp only); first | with_reducible assumption | grind [zu_at, zu_atL, zvn] | ((repeat' apply And.intro) <;> first | with_reducible assumption | first | lia | grind [zu_at, zu_atL, zvn])))
  refine zw_if (fun c19 => ?_) (fun c19 => ?_)
  · exact hj_55 _ (by first | exact True.intro | ((try dsimp only); first | with_reducible assumption | grind [zu_at, zu_atL, zvn] | ((repeat' apply And.intro) <;> first | with_reducible assumption | first | lia | grind [zu_at, zu_atL, zvn])))
  exact hj_1 _ (by first | exact True.intro | ((try dsimp only); first | with_reducible assumption | grind [zu_at, zu_atL, zvn] | ((repeat' apply And.intro) <;> first | with_reducible assumption | first | lia | grind [zu_at, zu_atL, zvn])))
