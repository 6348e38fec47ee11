set_option maxHeartbeats 4000000 in
set_option maxRecDepth 100000 in
theorem sf_X12_copiesTask (f1 : Nat → Int32) (f2 : Nat → Int32) (f3 : Nat → Int32) (f4 : Nat → Int32) (f5 : Nat → Int32) (f6 : Nat → Int32) (f7 : Nat → Int32) (f8 : Nat → Int32) (f9 : Nat → Int32) (f10 : Nat → Int32) (f11 : Nat → Int32) (f12 : Nat → Int64) (f13 : Nat → Int64) (f14 : Nat → Int32) (f15 : Nat → Int32) (f16 : Nat → Int32) (h_f1 : (∀ i : Nat, 0 ≤ f1 i ∧ f1 i ≤ 4)) (h_f2 : (∀ i : Nat, 0 ≤ f2 i ∧ f2 i ≤ 14)) (h_f10 : (∀ i : Nat, (-1) ≤ f10 i ∧ f10 i ≤ 13)) (h_f11 : (∀ i : Nat, (-1) ≤ f11 i ∧ f11 i ≤ 13)) (h_f14 : (∀ i : Nat, (-1) ≤ f14 i ∧ f14 i ≤ 3)) (h_f16 : (∀ i : Nat, 0 ≤ f16 i ∧ f16 i ≤ 13)) : zw (fn_X12_copiesTask f1 f2 f3 f4 f5 f6 f7 f8 f9 f10 f11 f12 f13 f14 f15 f16) (fun r => (∀ i : Nat, 0 ≤ r.1 i ∧ r.1 i ≤ 4) ∧ (∀ i : Nat, 0 ≤ r.2.1 i ∧ r.2.1 i ≤ 14) ∧ (∀ i : Nat, (-1) ≤ r.2.2.2.2.2.2.2.2.2.1 i ∧ r.2.2.2.2.2.2.2.2.2.1 i ≤ 13) ∧ (∀ i : Nat, (-1) ≤ r.2.2.2.2.2.2.2.2.2.2.1 i ∧ r.2.2.2.2.2.2.2.2.2.2.1 i ≤ 13) ∧ (∀ i : Nat, (-1) ≤ r.2.2.2.2.2.2.2.2.2.2.2.2.2.1 i ∧ r.2.2.2.2.2.2.2.2.2.2.2.2.2.1 i ≤ 3) ∧ (∀ i : Nat, 0 ≤ r.2.2.2.2.2.2.2.2.2.2.2.2.2.2.2 i ∧ r.2.2.2.2.2.2.2.2.2.2.2.2.2.2.2 i ≤ 13) ∧ r.1 (0 : Int32).toNatClampNeg = f1 (1 : Int32).toNatClampNeg ∧ r.2.1 (0 : Int32).toNatClampNeg = f2 (1 : Int32).toNatClampNeg ∧ (∀ x : Int32, 0 ≤ x → x < 4 → r.2.2.2.2.1 x.toNatClampNeg = f5 (4 + x).toNatClampNeg ∧ r.2.2.2.2.1 (4 + x).toNatClampNeg = f5 (4 + x).toNatClampNeg) ∧ (∀ k : Int32, 0 ≤ k → k < 14 → r.2.2.2.2.2.2.2.2.2.2.2.2.2.1 k.toNatClampNeg = f14 (14 + k).toNatClampNeg)) := by
  unfold fn_X12_copiesTask
  refine zw_zn1 ?_
  refine zw_zn1 ?_
  refine zw_zn1 ?_
  refine zw_zl32 (fun s_4 => (∀ x : Int32, 0 ≤ x → x < s_4.1 → s_4.2.2.1 x.toNatClampNeg = f5 (4 + x).toNatClampNeg) ∧ (∀ x : Int32, 4 ≤ x → s_4.2.2.1 x.toNatClampNeg = f5 x.toNatClampNeg) ∧ 0 ≤ s_4.1 ∧ s_4.1 ≤ 4) (fun s_4 => 4 - s_4.1) (by (try dsimp only); (repeat' apply And.intro) <;> first | with_reducible assumption | with_reducible exact fun _ => Or.inl rfl | with_reducible exact fun _ _ _ => rfl | with_reducible exact fun _ _ h => Or.inl h | with_reducible rfl | ((with_reducible refine zU1 ?_) <;> grind [z32_in]) | with_reducible exact zU1m | ((with_reducible refine zU4 ?_) <;> lia) | ((with_reducible refine zU3 ?_) <;> lia) | ((with_reducible refine zU6 ?_) <;> lia) | ((with_reducible refine zU8 ⟨?_, ?_⟩) <;> first | lia | grind) | ((with_reducible refine zO1 ?_) <;> with_reducible assumption) | ((with_reducible refine zO2 ?_) <;> with_reducible assumption) | ((with_reducible refine zU7 ?_ ⟨?_, ?_⟩) <;> first | with_reducible assumption | lia | grind) | ((with_reducible refine zC1 (d := 4) ⟨by decide, by decide⟩ ?_ ?_ ?_ ?_) <;> first | with_reducible assumption | lia) | ((with_reducible refine zC2 (d := 4) ⟨by decide, by decide⟩ ?_ ?_ ?_) <;> first | with_reducible assumption | lia) | ((with_reducible refine zC1 (d := 14) ⟨by decide, by decide⟩ ?_ ?_ ?_ ?_) <;> first | with_reducible assumption | lia) | ((with_reducible refine zC2 (d := 14) ⟨by decide, by decide⟩ ?_ ?_ ?_) <;> first | with_reducible assumption | lia) | ((with_reducible refine zC3 ?_ ?_ ?_) <;> first | with_reducible assumption | lia) | ((with_reducible refine zC4 ?_ ?_) <;> first | with_reducible assumption | lia) | first | lia | grind [zu_at, zu_atL, zvn]) (by (try dsimp only); first | lia | grind [zu_at, zu_atL, zvn]) (fun s_4 back_4 Hback_4 hback_4 => ?_)
  obtain ⟨s_4_0, s_4_1, s_4_2, s_4_3, s_4_4⟩ := s_4
  try dsimp only at Hback_4 hback_4
  obtain ⟨Hback_4_0, Hback_4_1, Hback_4_2, Hback_4_3⟩ := Hback_4
  refine zw_if (fun c1 => ?_) (fun c1 => ?_)
  · refine zw_zl32 (fun s_6 => (∀ x : Int32, 0 ≤ x → x < s_6.1 → s_6.2.2.2.2.2.2.2.1 x.toNatClampNeg = f14 (14 + x).toNatClampNeg) ∧ (∀ x : Int32, 14 ≤ x → s_6.2.2.2.2.2.2.2.1 x.toNatClampNeg = f14 x.toNatClampNeg) ∧ (∀ i : Nat, (-1) ≤ s_6.2.2.2.1 i ∧ s_6.2.2.2.1 i ≤ 13) ∧ (∀ i : Nat, (-1) ≤ s_6.2.2.2.2.1 i ∧ s_6.2.2.2.2.1 i ≤ 13) ∧ (∀ i : Nat, (-1) ≤ s_6.2.2.2.2.2.2.2.1 i ∧ s_6.2.2.2.2.2.2.2.1 i ≤ 3) ∧ (∀ i : Nat, 0 ≤ s_6.2.2.2.2.2.2.2.2.2 i ∧ s_6.2.2.2.2.2.2.2.2.2 i ≤ 13) ∧ 0 ≤ s_6.1 ∧ s_6.1 ≤ 14) (fun s_6 => 14 - s_6.1) (by (try dsimp only); (repeat' apply And.intro) <;> first | with_reducible assumption | with_reducible exact fun _ => Or.inl rfl | with_reducible exact fun _ _ _ => rfl | with_reducible exact fun _ _ h => Or.inl h | with_reducible rfl | ((with_reducible refine zU1 ?_) <;> grind [z32_in]) | with_reducible exact zU1m | ((with_reducible refine zU4 ?_) <;> ((try clear hback_4); lia)) | ((with_reducible refine zU3 ?_) <;> ((try clear hback_4); lia)) | ((with_reducible refine zU6 ?_) <;> ((try clear hback_4); lia)) | ((with_reducible refine zU8 ⟨?_, ?_⟩) <;> ((try clear hback_4); first | lia | grind)) | ((with_reducible refine zO1 ?_) <;> with_reducible assumption) | ((with_reducible refine zO2 ?_) <;> with_reducible assumption) | ((with_reducible refine zU7 ?_ ⟨?_, ?_⟩) <;> first | with_reducible assumption | lia | grind) | ((with_reducible refine zC1 (d := 4) ⟨by decide, by decide⟩ ?_ ?_ ?_ ?_) <;> first | with_reducible assumption | lia) | ((with_reducible refine zC2 (d := 4) ⟨by decide, by decide⟩ ?_ ?_ ?_) <;> first | with_reducible assumption | lia) | ((with_reducible refine zC1 (d := 14) ⟨by decide, by decide⟩ ?_ ?_ ?_ ?_) <;> first | with_reducible assumption | lia) | ((with_reducible refine zC2 (d := 14) ⟨by decide, by decide⟩ ?_ ?_ ?_) <;> first | with_reducible assumption | lia) | ((with_reducible refine zC3 ?_ ?_ ?_) <;> first | with_reducible assumption | lia) | ((with_reducible refine zC4 ?_ ?_) <;> first | with_reducible assumption | lia) | ((try clear hback_4); first | lia | grind [zu_at, zu_atL, zvn])) (by (try dsimp only); ((try clear hback_4); first | lia | grind [zu_at, zu_atL, zvn])) (fun s_6 back_6 Hback_6 hback_6 => ?_)
    obtain ⟨s_6_0, s_6_1, s_6_2, s_6_3, s_6_4, s_6_5, s_6_6, s_6_7, s_6_8, s_6_9⟩ := s_6
    try dsimp only at Hback_6 hback_6
    obtain ⟨Hback_6_0, Hback_6_1, Hback_6_2, Hback_6_3, Hback_6_4, Hback_6_5, Hback_6_6, Hback_6_7⟩ := Hback_6
    refine zw_if (fun c2 => ?_) (fun c2 => ?_)
    · refine zw_some ?_
      first | exact True.intro | ((try dsimp only); (repeat' apply And.intro) <;> first | with_reducible assumption | with_reducible exact fun _ => Or.inl rfl | with_reducible exact fun _ _ _ => rfl | with_reducible exact fun _ _ h => Or.inl h | with_reducible rfl | ((with_reducible refine zU1 ?_) <;> grind [z32_in]) | with_reducible exact zU1m | ((with_reducible refine zU4 ?_) <;> ((try clear hback_4); (try clear hback_6); lia)) | ((with_reducible refine zU3 ?_) <;> ((try clear hback_4); (try clear hback_6); lia)) | ((with_reducible refine zU6 ?_) <;> ((try clear hback_4); (try clear hback_6); lia)) | ((with_reducible refine zU8 ⟨?_, ?_⟩) <;> ((try clear hback_4); (try clear hback_6); first | lia | grind)) | ((with_reducible refine zO1 ?_) <;> with_reducible assumption) | ((with_reducible refine zO2 ?_) <;> with_reducible assumption) | ((with_reducible refine zU7 ?_ ⟨?_, ?_⟩) <;> first | with_reducible assumption | lia | grind) | ((with_reducible refine zC1 (d := 4) ⟨by decide, by decide⟩ ?_ ?_ ?_ ?_) <;> first | with_reducible assumption | lia) | ((with_reducible refine zC2 (d := 4) ⟨by decide, by decide⟩ ?_ ?_ ?_) <;> first | with_reducible assumption | lia) | ((with_reducible refine zC1 (d := 14) ⟨by decide, by decide⟩ ?_ ?_ ?_ ?_) <;> first | with_reducible assumption | lia) | ((with_reducible refine zC2 (d := 14) ⟨by decide, by decide⟩ ?_ ?_ ?_) <;> first | with_reducible assumption | lia) | ((with_reducible refine zC3 ?_ ?_ ?_) <;> first | with_reducible assumption | lia) | ((with_reducible refine zC4 ?_ ?_) <;> first | with_reducible assumption | lia) | ((try clear hback_4); (try clear hback_6); first | lia | grind [zu_at, zu_atL, zvn]))
    refine zw_zg32 28 (by decide) (by (try dsimp only); ((try clear hback_4); (try clear hback_6); first | lia | grind [zu_at, zu_atL, zvn])) ?_
    refine zw_zg32 28 (by decide) (by (try dsimp only); ((try clear hback_4); (try clear hback_6); first | lia | grind [zu_at, zu_atL, zvn])) ?_
    refine zw_zn1 ?_
    refine zw_zn1 ?_
    refine zw_zn1 ?_
    refine zw_zn1 ?_
    refine zw_zn1 ?_
    refine zw_zn1 ?_
    refine zw_zn1 ?_
    refine zw_zn1 ?_
    refine zw_zn1 ?_
    exact hback_6 _ (by (try dsimp only); (repeat' apply And.intro) <;> first | with_reducible assumption | with_reducible exact fun _ => Or.inl rfl | with_reducible exact fun _ _ _ => rfl | with_reducible exact fun _ _ h => Or.inl h | with_reducible rfl | ((with_reducible refine zU1 ?_) <;> grind [z32_in]) | with_reducible exact zU1m | ((with_reducible refine zU4 ?_) <;> ((try clear hback_4); (try clear hback_6); lia)) | ((with_reducible refine zU3 ?_) <;> ((try clear hback_4); (try clear hback_6); lia)) | ((with_reducible refine zU6 ?_) <;> ((try clear hback_4); (try clear hback_6); lia)) | ((with_reducible refine zU8 ⟨?_, ?_⟩) <;> ((try clear hback_4); (try clear hback_6); first | lia | grind)) | ((with_reducible refine zO1 ?_) <;> with_reducible assumption) | ((with_reducible refine zO2 ?_) <;> with_reducible assumption) | ((with_reducible refine zU7 ?_ ⟨?_, ?_⟩) <;> first | with_reducible assumption | lia | grind) | ((with_reducible refine zC1 (d := 4) ⟨by decide, by decide⟩ ?_ ?_ ?_ ?_) <;> first | with_reducible assumption | lia) | ((with_reducible refine zC2 (d := 4) ⟨by decide, by decide⟩ ?_ ?_ ?_) <;> first | with_reducible assumption | lia) | ((with_reducible refine zC1 (d := 14) ⟨by decide, by decide⟩ ?_ ?_ ?_ ?_) <;> first | with_reducible assumption | lia) | ((with_reducible refine zC2 (d := 14) ⟨by decide, by decide⟩ ?_ ?_ ?_) <;> first | with_reducible assumption | lia) | ((with_reducible refine zC3 ?_ ?_ ?_) <;> first | with_reducible assumption | lia) | ((with_reducible refine zC4 ?_ ?_) <;> first | with_reducible assumption | lia) | ((try clear hback_4); (try clear hback_6); first | lia | grind [zu_at, zu_atL, zvn])) (by (try dsimp only); ((try clear hback_4); (try clear hback_6); first | lia | grind [zu_at, zu_atL, zvn])) (by (try dsimp only); ((try clear hback_4); (try clear hback_6); first | lia | grind [zu_at, zu_atL, zvn]))
  refine zw_zg32 8 (by decide) (by (try dsimp only); ((try clear hback_4); (try clear hback_6); first | lia | grind [zu_at, zu_atL, zvn])) ?_
  refine zw_zg32 8 (by decide) (by (try dsimp only); ((try clear hback_4); (try clear hback_6); first | lia | grind [zu_at, zu_atL, zvn])) ?_
  refine zw_zn1 ?_
  refine zw_zn1 ?_
  refine zw_zn1 ?_
  refine zw_zn1 ?_
  exact hback_4 _ (by (try dsimp only); (repeat' apply And.intro) <;> first | with_reducible assumption | with_reducible exact fun _ => Or.inl rfl | with_reducible exact fun _ _ _ => rfl | with_reducible exact fun _ _ h => Or.inl h | with_reducible rfl | ((with_reducible refine zU1 ?_) <;> grind [z32_in]) | with_reducible exact zU1m | ((with_reducible refine zU4 ?_) <;> ((try clear hback_4); (try clear hback_6); lia)) | ((with_reducible refine zU3 ?_) <;> ((try clear hback_4); (try clear hback_6); lia)) | ((with_reducible refine zU6 ?_) <;> ((try clear hback_4); (try clear hback_6); lia)) | ((with_reducible refine zU8 ⟨?_, ?_⟩) <;> ((try clear hback_4); (try clear hback_6); first | lia | grind)) | ((with_reducible refine zO1 ?_) <;> with_reducible assumption) | ((with_reducible refine zO2 ?_) <;> with_reducible assumption) | ((with_reducible refine zU7 ?_ ⟨?_, ?_⟩) <;> first | with_reducible assumption | lia | grind) | ((with_reducible refine zC1 (d := 4) ⟨by decide, by decide⟩ ?_ ?_ ?_ ?_) <;> first | with_reducible assumption | lia) | ((with_reducible refine zC2 (d := 4) ⟨by decide, by decide⟩ ?_ ?_ ?_) <;> first | with_reducible assumption | lia) | ((with_reducible refine zC1 (d := 14) ⟨by decide, by decide⟩ ?_ ?_ ?_ ?_) <;> first | with_reducible assumption | lia) | ((with_reducible refine zC2 (d := 14) ⟨by decide, by decide⟩ ?_ ?_ ?_) <;> first | with_reducible assumption | lia) | ((with_reducible refine zC3 ?_ ?_ ?_) <;> first | with_reducible assumption | lia) | ((with_reducible refine zC4 ?_ ?_) <;> first | with_reducible assumption | lia) | ((try clear hback_4); (try clear hback_6); first | lia | grind [zu_at, zu_atL, zvn])) (by (try dsimp only); ((try clear hback_4); (try clear hback_6); first | lia | grind [zu_at, zu_atL, zvn])) (by (try dsimp only); ((try clear hback_4); (try clear hback_6); first | lia | grind [zu_at, zu_atL, zvn]))
set_option maxHeartbeats 4000000 in
set_option maxRecDepth 100000 in
theorem sf_X12_beginsChoice (f1 : Nat → Int32) (f2 : Nat → Int32) (f3 : Nat → Int32) (f4 : Nat → Int32) (h_f1 : (∀ i : Nat, 0 ≤ f1 i ∧ f1 i ≤ 14)) (h_f2 : (∀ i : Nat, 0 ≤ f2 i ∧ f2 i ≤ 3)) (h_f3 : (∀ i : Nat, (-1) ≤ f3 i ∧ f3 i ≤ 3)) (h_f4 : (∀ i : Nat, 0 ≤ f4 i ∧ f4 i ≤ 13)) : zw (fn_X12_beginsChoice f1 f2 f3 f4) (fun r => 0 ≤ r.1 ∧ r.1 ≤ 1 ∧ (∀ i : Nat, 0 ≤ r.2 i ∧ r.2 i ≤ 3) ∧ r.1 ≤ (f1 (0 : Int32).toNatClampNeg) + 1 ∧ (∀ i : Nat, r.2 i = f2 i ∨ r.2 i = 0 ∨ ∃ k : Int32, 0 ≤ k ∧ k < f1 (0 : Int32).toNatClampNeg ∧ ¬ f3 k.toNatClampNeg = (-1) ∧ r.2 i = f3 k.toNatClampNeg)) := by
  unfold fn_X12_beginsChoice
  refine zw_zl32 (fun s_1 => (∀ i : Nat, s_1.2 i = f2 i ∨ s_1.2 i = 0 ∨ ∃ k : Int32, 0 ≤ k ∧ k < f1 (0 : Int32).toNatClampNeg ∧ ¬ f3 k.toNatClampNeg = (-1) ∧ s_1.2 i = f3 k.toNatClampNeg) ∧ (∀ i : Nat, 0 ≤ s_1.2 i ∧ s_1.2 i ≤ 3) ∧ 0 ≤ s_1.1 ∧ s_1.1 ≤ 14) (fun s_1 => 14 - s_1.1) (by (try dsimp only); (repeat' apply And.intro) <;> first | with_reducible assumption | first | lia | grind [zu_at, zu_atL, zvn]) (by (try dsimp only); first | lia | grind [zu_at, zu_atL, zvn]) (fun s_1 back_1 Hback_1 hback_1 => ?_)
  obtain ⟨s_1_0, s_1_1⟩ := s_1
  try dsimp only at Hback_1 hback_1
  obtain ⟨Hback_1_0, Hback_1_1, Hback_1_2, Hback_1_3⟩ := Hback_1
  refine zw_if (fun c1 => ?_) (fun c1 => ?_)
  · refine zw_zl32 (fun s_3 => (∀ i : Nat, s_3.2.2 i = f2 i ∨ s_3.2.2 i = 0 ∨ ∃ k : Int32, 0 ≤ k ∧ k < f1 (0 : Int32).toNatClampNeg ∧ ¬ f3 k.toNatClampNeg = (-1) ∧ s_3.2.2 i = f3 k.toNatClampNeg) ∧ (∀ i : Nat, 0 ≤ s_3.2.2 i ∧ s_3.2.2 i ≤ 3) ∧ 0 ≤ s_3.1 ∧ s_3.1 ≤ 14 ∧ 0 ≤ s_3.2.1 ∧ s_3.2.1 ≤ 1 ∧ s_3.1 ≤ s_1_0 ∧ s_3.1 ≤ (f1 (0 : Int32).toNatClampNeg)) (fun s_3 => 14 - s_3.1) (by (try dsimp only); (repeat' apply And.intro) <;> first | with_reducible assumption | ((try clear hback_1); first | lia | grind [zu_at, zu_atL, zvn])) (by (try dsimp only); ((try clear hback_1); first | lia | grind [zu_at, zu_atL, zvn])) (fun s_3 back_3 Hback_3 hback_3 => ?_)
    obtain ⟨s_3_0, s_3_1, s_3_2⟩ := s_3
    try dsimp only at Hback_3 hback_3
    obtain ⟨Hback_3_0, Hback_3_1, Hback_3_2, Hback_3_3, Hback_3_4, Hback_3_5, Hback_3_6, Hback_3_7⟩ := Hback_3
    refine zw_if (fun c2 => ?_) (fun c2 => ?_)
    · refine zw_some ?_
      first | exact True.intro | ((try dsimp only); (repeat' apply And.intro) <;> first | with_reducible assumption | ((try clear hback_1); (try clear hback_3); first | lia | grind [zu_at, zu_atL, zvn]))
    refine zw_zg32 28 (by decide) (by (try dsimp only); ((try clear hback_1); (try clear hback_3); first | lia | grind [zu_at, zu_atL, zvn])) ?_
    refine zw_if (fun c3 => ?_) (fun c3 => ?_)
    · exact hback_3 _ (by (try dsimp only); (repeat' apply And.intro) <;> first | with_reducible assumption | ((try clear hback_1); (try clear hback_3); first | lia | grind [zu_at, zu_atL, zvn])) (by (try dsimp only); ((try clear hback_1); (try clear hback_3); first | lia | grind [zu_at, zu_atL, zvn])) (by (try dsimp only); ((try clear hback_1); (try clear hback_3); first | lia | grind [zu_at, zu_atL, zvn]))
    refine zw_zl32 (fun s_7 => (∀ i : Nat, s_7.2.2 i = f2 i ∨ s_7.2.2 i = 0 ∨ ∃ k : Int32, 0 ≤ k ∧ k < f1 (0 : Int32).toNatClampNeg ∧ ¬ f3 k.toNatClampNeg = (-1) ∧ s_7.2.2 i = f3 k.toNatClampNeg) ∧ (∀ i : Nat, 0 ≤ s_7.2.2 i ∧ s_7.2.2 i ≤ 3) ∧ 0 ≤ s_7.1 ∧ s_7.1 ≤ 14 ∧ 0 ≤ s_7.2.1 ∧ s_7.2.1 ≤ 1 ∧ s_7.1 ≤ s_1_0 ∧ s_7.2.1 ≤ s_3_1 ∧ s_7.1 ≤ (f1 (0 : Int32).toNatClampNeg)) (fun s_7 => 14 - s_7.1) (by (try dsimp only); (repeat' apply And.intro) <;> first | with_reducible assumption | ((try clear hback_1); (try clear hback_3); first | lia | grind [zu_at, zu_atL, zvn])) (by (try dsimp only); ((try clear hback_1); (try clear hback_3); first | lia | grind [zu_at, zu_atL, zvn])) (fun s_7 back_7 Hback_7 hback_7 => ?_)
    obtain ⟨s_7_0, s_7_1, s_7_2⟩ := s_7
    try dsimp only at Hback_7 hback_7
    obtain ⟨Hback_7_0, Hback_7_1, Hback_7_2, Hback_7_3, Hback_7_4, Hback_7_5, Hback_7_6, Hback_7_7, Hback_7_8⟩ := Hback_7
    refine zw_if (fun c4 => ?_) (fun c4 => ?_)
    · exact hback_3 _ (by (try dsimp only); (repeat' apply And.intro) <;> first | with_reducible assumption | ((try clear hback_1); (try clear hback_3); (try clear hback_7); first | lia | grind [zu_at, zu_atL, zvn])) (by (try dsimp only); ((try clear hback_1); (try clear hback_3); (try clear hback_7); first | lia | grind [zu_at, zu_atL, zvn])) (by (try dsimp only); ((try clear hback_1); (try clear hback_3); (try clear hback_7); first | lia | grind [zu_at, zu_atL, zvn]))
    refine zw_zg32 28 (by decide) (by (try dsimp only); ((try clear hback_1); (try clear hback_3); (try clear hback_7); first | lia | grind [zu_at, zu_atL, zvn])) ?_
    refine zw_zg32 28 (by decide) (by (try dsimp only); ((try clear hback_1); (try clear hback_3); (try clear hback_7); first | lia | grind [zu_at, zu_atL, zvn])) ?_
    refine zw_if (fun c5 => ?_) (fun c5 => ?_)
    · refine zw_zg32 14 (by decide) (by (try dsimp only); ((try clear hback_1); (try clear hback_3); (try clear hback_7); first | lia | grind [zu_at, zu_atL, zvn])) ?_
      refine zw_if (fun c6 => ?_) (fun c6 => ?_)
      · exact hback_7 _ (by (try dsimp only); (repeat' apply And.intro) <;> first | with_reducible assumption | ((try clear hback_1); (try clear hback_3); (try clear hback_7); first | lia | grind [zu_at, zu_atL, zvn])) (by (try dsimp only); ((try clear hback_1); (try clear hback_3); (try clear hback_7); first | lia | grind [zu_at, zu_atL, zvn])) (by (try dsimp only); ((try clear hback_1); (try clear hback_3); (try clear hback_7); first | lia | grind [zu_at, zu_atL, zvn]))
      refine zw_if (fun c7 => ?_) (fun c7 => ?_)
      · exact hback_7 _ (by (try dsimp only); (repeat' apply And.intro) <;> first | with_reducible assumption | ((try clear hback_1); (try clear hback_3); (try clear hback_7); first | lia | grind [zu_at, zu_atL, zvn])) (by (try dsimp only); ((try clear hback_1); (try clear hback_3); (try clear hback_7); first | lia | grind [zu_at, zu_atL, zvn])) (by (try dsimp only); ((try clear hback_1); (try clear hback_3); (try clear hback_7); first | lia | grind [zu_at, zu_atL, zvn]))
      refine zw_if (fun c8 => ?_) (fun c8 => ?_)
      · exact hback_7 _ (by (try dsimp only); (repeat' apply And.intro) <;> first | with_reducible assumption | ((try clear hback_1); (try clear hback_3); (try clear hback_7); first | lia | grind [zu_at, zu_atL, zvn])) (by (try dsimp only); ((try clear hback_1); (try clear hback_3); (try clear hback_7); first | lia | grind [zu_at, zu_atL, zvn])) (by (try dsimp only); ((try clear hback_1); (try clear hback_3); (try clear hback_7); first | lia | grind [zu_at, zu_atL, zvn]))
      exact hback_7 _ (by (try dsimp only); (repeat' apply And.intro) <;> first | with_reducible assumption | ((try clear hback_1); (try clear hback_3); (try clear hback_7); first | lia | grind [zu_at, zu_atL, zvn])) (by (try dsimp only); ((try clear hback_1); (try clear hback_3); (try clear hback_7); first | lia | grind [zu_at, zu_atL, zvn])) (by (try dsimp only); ((try clear hback_1); (try clear hback_3); (try clear hback_7); first | lia | grind [zu_at, zu_atL, zvn]))
    exact hback_7 _ (by (try dsimp only); (repeat' apply And.intro) <;> first | with_reducible assumption | ((try clear hback_1); (try clear hback_3); (try clear hback_7); first | lia | grind [zu_at, zu_atL, zvn])) (by (try dsimp only); ((try clear hback_1); (try clear hback_3); (try clear hback_7); first | lia | grind [zu_at, zu_atL, zvn])) (by (try dsimp only); ((try clear hback_1); (try clear hback_3); (try clear hback_7); first | lia | grind [zu_at, zu_atL, zvn]))
  refine zw_zg32 14 (by decide) (by (try dsimp only); ((try clear hback_1); (try clear hback_3); (try clear hback_7); first | lia | grind [zu_at, zu_atL, zvn])) ?_
  exact hback_1 _ (by (try dsimp only); (repeat' apply And.intro) <;> first | with_reducible assumption | ((try clear hback_1); (try clear hback_3); (try clear hback_7); first | lia | grind [zu_at, zu_atL, zvn])) (by (try dsimp only); ((try clear hback_1); (try clear hback_3); (try clear hback_7); first | lia | grind [zu_at, zu_atL, zvn])) (by (try dsimp only); ((try clear hback_1); (try clear hback_3); (try clear hback_7); first | lia | grind [zu_at, zu_atL, zvn]))
set_option maxHeartbeats 4000000 in
set_option maxRecDepth 100000 in
theorem sf_X12_task (v0_1 : Int32) (v0_7 : Int32) (w0_28 : Int64) (v0_38 : Int32) (v0_58 : Int32) (v0_59 : Int32) (f1 : Nat → Int32) (f2 : Nat → Int32) (f3 : Nat → Int32) (f4 : Nat → Int32) (f5 : Nat → Int32) (f6 : Nat → Int32) (f7 : Nat → Int32) (f8 : Nat → Int32) (f9 : Nat → Int32) (f10 : Nat → Int32) (f11 : Nat → Int32) (f12 : Nat → Int32) (f13 : Nat → Int32) (f14 : Nat → Int32) (f15 : Nat → Int32) (f16 : Nat → Int32) (f17 : Nat → Int64) (f18 : Nat → Int64) (f19 : Nat → Int32) (f20 : Nat → Int32) (h_v0_1 : 0 ≤ v0_1 ∧ v0_1 ≤ 1200) (h_v0_7 : 0 ≤ v0_7 ∧ v0_7 ≤ 1200) (h_v0_38 : 0 ≤ v0_38 ∧ v0_38 ≤ 1) (h_f1 : (∀ i : Nat, 0 ≤ f1 i ∧ f1 i ≤ 4)) (h_f2 : (∀ i : Nat, 0 ≤ f2 i ∧ f2 i ≤ 14)) (h_f4 : (∀ i : Nat, 0 ≤ f4 i ∧ f4 i ≤ 255)) (h_f13 : (∀ i : Nat, (-1) ≤ f13 i ∧ f13 i ≤ 13)) (h_f14 : (∀ i : Nat, (-1) ≤ f14 i ∧ f14 i ≤ 13)) (h_f15 : (∀ i : Nat, (-1) ≤ f15 i ∧ f15 i ≤ 3)) (h_f16 : (∀ i : Nat, 0 ≤ f16 i ∧ f16 i ≤ 13)) (h_f19 : (∀ i : Nat, 0 ≤ f19 i ∧ f19 i ≤ 3)) (hx_0 : (∀ k : Nat, k < 71 → f5 k = zTab k)) (hx_1 : (∀ x : Int32, 0 ≤ x → x < 4 → 1 ≤ f8 x.toNatClampNeg → 1 ≤ f8 (4 + x).toNatClampNeg)) : zw (fn_X12_task v0_1 v0_7 w0_28 v0_38 v0_58 v0_59 f1 f2 f3 f4 f5 f6 f7 f8 f9 f10 f11 f12 f13 f14 f15 f16 f17 f18 f19 f20) (fun r => 0 ≤ r.2.1 ∧ r.2.1 ≤ 1200 ∧ 0 ≤ r.2.2.1 ∧ r.2.2.1 ≤ 1 ∧ 0 ≤ r.2.2.2.2.2.1 ∧ r.2.2.2.2.2.1 ≤ 1 ∧ 0 ≤ r.2.2.2.2.2.2.2.1 ∧ r.2.2.2.2.2.2.2.1 ≤ 1200 ∧ 0 ≤ r.2.2.2.2.2.2.2.2.2.2.1 ∧ r.2.2.2.2.2.2.2.2.2.2.1 ≤ 1200 ∧ 0 ≤ r.2.2.2.2.2.2.2.2.2.2.2.1 ∧ r.2.2.2.2.2.2.2.2.2.2.2.1 ≤ 1200 ∧ 0 ≤ r.2.2.2.2.2.2.2.2.2.2.2.2.1 ∧ r.2.2.2.2.2.2.2.2.2.2.2.2.1 ≤ 4 ∧ (∀ i : Nat, 0 ≤ r.2.2.2.2.2.2.2.2.2.2.2.2.2.2.1 i ∧ r.2.2.2.2.2.2.2.2.2.2.2.2.2.2.1 i ≤ 4) ∧ (∀ i : Nat, 0 ≤ r.2.2.2.2.2.2.2.2.2.2.2.2.2.2.2.1 i ∧ r.2.2.2.2.2.2.2.2.2.2.2.2.2.2.2.1 i ≤ 14) ∧ (∀ i : Nat, (-1) ≤ r.2.2.2.2.2.2.2.2.2.2.2.2.2.2.2.2.2.2.2.2.2.2.2.2.1 i ∧ r.2.2.2.2.2.2.2.2.2.2.2.2.2.2.2.2.2.2.2.2.2.2.2.2.1 i ≤ 13) ∧ (∀ i : Nat, (-1) ≤ r.2.2.2.2.2.2.2.2.2.2.2.2.2.2.2.2.2.2.2.2.2.2.2.2.2.1 i ∧ r.2.2.2.2.2.2.2.2.2.2.2.2.2.2.2.2.2.2.2.2.2.2.2.2.2.1 i ≤ 13) ∧ (∀ i : Nat, (-1) ≤ r.2.2.2.2.2.2.2.2.2.2.2.2.2.2.2.2.2.2.2.2.2.2.2.2.2.2.1 i ∧ r.2.2.2.2.2.2.2.2.2.2.2.2.2.2.2.2.2.2.2.2.2.2.2.2.2.2.1 i ≤ 3) ∧ (∀ i : Nat, 0 ≤ r.2.2.2.2.2.2.2.2.2.2.2.2.2.2.2.2.2.2.2.2.2.2.2.2.2.2.2.1 i ∧ r.2.2.2.2.2.2.2.2.2.2.2.2.2.2.2.2.2.2.2.2.2.2.2.2.2.2.2.1 i ≤ 13) ∧ (∀ i : Nat, 0 ≤ r.2.2.2.2.2.2.2.2.2.2.2.2.2.2.2.2.2.2.2.2.2.2.2.2.2.2.2.2.2.2.1 i ∧ r.2.2.2.2.2.2.2.2.2.2.2.2.2.2.2.2.2.2.2.2.2.2.2.2.2.2.2.2.2.2.1 i ≤ 3) ∧ (-1) ≤ r.1 ∧ 0 ≤ r.2.2.2.2.1 ∧ r.1 ≤ 14 ∧ r.2.1 ≤ 0 ∧ r.2.2.1 ≤ 0 ∧ r.2.2.2.2.1 ≤ 4 ∧ (r.1 = (-1) → 1 ≤ r.2.2.2.2.1 ∧ 1 ≤ r.2.2.2.2.2.2.2.2.2.2.2.2.1) ∧ (¬ r.1 = (-1) → 0 ≤ r.1 ∧ (-1) ≤ r.2.2.2.2.2.2.2.2.1 ∧ (-1) ≤ r.2.2.2.2.2.2.2.2.2.1 ∧ r.2.2.2.2.1 ≤ 0 ∧ r.2.2.2.2.2.2.2.2.1 ≤ (-1) ∧ r.2.2.2.2.2.2.2.2.2.1 ≤ (-1) ∧ r.2.2.2.2.2.2.2.2.2.2.2.2.1 ≤ 0) ∧ (∀ x : Int32, 0 ≤ x → x < 4 → 1 ≤ r.2.2.2.2.2.2.2.2.2.2.2.2.2.2.2.2.2.2.2.1 x.toNatClampNeg → 1 ≤ r.2.2.2.2.2.2.2.2.2.2.2.2.2.2.2.2.2.2.2.1 (4 + x).toNatClampNeg) ∧ (∀ x : Int32, 0 ≤ x → x < 4 → 1 ≤ f8 x.toNatClampNeg → 1 ≤ r.2.2.2.2.2.2.2.2.2.2.2.2.2.2.2.2.2.2.2.1 x.toNatClampNeg) ∧ (r.1 = (-1) → r.2.2.2.2.2.2.2.2.2.2.2.2.2.2.2.1 (0 : Int32).toNatClampNeg = f2 (0 : Int32).toNatClampNeg ∧ r.2.2.2.2.2.2.2.2.2.2.2.2.2.2.1 (0 : Int32).toNatClampNeg = f1 (0 : Int32).toNatClampNeg ∧ (∀ x : Int32, 0 ≤ x → x < 4 → r.2.2.2.2.2.2.2.2.2.2.2.2.2.2.2.2.2.2.2.1 x.toNatClampNeg = f8 x.toNatClampNeg) ∧ (∀ i : Nat, r.2.2.2.2.2.2.2.2.2.2.2.2.2.2.2.2.2.2.2.2.2.2.2.2.2.2.2.2.2.2.1 i = f19 i)) ∧ (¬ r.1 = (-1) → 1 ≤ r.2.2.2.2.2.2.2.2.2.2.2.2.2.2.1 (0 : Int32).toNatClampNeg ∧ (∀ x : Int32, 0 ≤ x → x < r.2.2.2.2.2.2.2.2.2.2.2.2.2.2.1 (0 : Int32).toNatClampNeg → 1 ≤ r.2.2.2.2.2.2.2.2.2.2.2.2.2.2.2.2.2.2.2.1 x.toNatClampNeg) ∧ (∀ i : Nat, r.2.2.2.2.2.2.2.2.2.2.2.2.2.2.2.2.2.2.2.2.2.2.2.2.2.2.2.2.2.2.1 i = f19 i ∨ 1 ≤ r.2.2.2.2.2.2.2.2.2.2.2.2.2.2.2.2.2.2.2.1 (r.2.2.2.2.2.2.2.2.2.2.2.2.2.2.2.2.2.2.2.2.2.2.2.2.2.2.2.2.2.2.1 i).toNatClampNeg)) ∧ r.2.1 = 0) := by
  unfold fn_X12_task
  refine zw_zl32 (fun s_1 => (s_1.1 ≤ 40 ∨ ¬ s_1.2.2.2.2.1 = 0) ∧ (∀ x : Int32, 0 ≤ x → x < s_1.2.2.2.2.2.2.1 (1 : Int32).toNatClampNeg → 1 ≤ s_1.2.2.2.2.2.2.2.2.1 (4 + x).toNatClampNeg) ∧ (∀ k : Int32, 0 ≤ k → k < s_1.2.2.2.2.2.2.2.2.2.2.2.1 (1 : Int32).toNatClampNeg → s_1.2.2.2.2.2.2.2.2.2.2.2.2.2.2.2.2.2.2.2.1 (14 + k).toNatClampNeg = (-1) ∨ 0 ≤ s_1.2.2.2.2.2.2.2.2.2.2.2.2.2.2.2.2.2.2.2.1 (14 + k).toNatClampNeg ∧ 1 ≤ s_1.2.2.2.2.2.2.2.2.1 (4 + s_1.2.2.2.2.2.2.2.2.2.2.2.2.2.2.2.2.2.2.2.1 (14 + k).toNatClampNeg).toNatClampNeg) ∧ (∀ x : Int32, 0 ≤ x → x < 4 → 1 ≤ s_1.2.2.2.2.2.2.2.2.1 x.toNatClampNeg → 1 ≤ s_1.2.2.2.2.2.2.2.2.1 (4 + x).toNatClampNeg) ∧ (∀ x : Int32, 0 ≤ x → x < 4 → s_1.2.2.2.2.2.2.2.2.1 x.toNatClampNeg = f8 x.toNatClampNeg) ∧ s_1.2.2.2.2.2.2.1 (0 : Int32).toNatClampNeg = f1 (0 : Int32).toNatClampNeg ∧ s_1.2.2.2.2.2.2.2.2.2.2.2.1 (0 : Int32).toNatClampNeg = f2 (0 : Int32).toNatClampNeg ∧ (∀ i : Nat, 0 ≤ s_1.2.2.2.2.2.2.1 i ∧ s_1.2.2.2.2.2.2.1 i ≤ 4) ∧ (∀ i : Nat, 0 ≤ s_1.2.2.2.2.2.2.2.2.2.2.2.1 i ∧ s_1.2.2.2.2.2.2.2.2.2.2.2.1 i ≤ 14) ∧ (∀ i : Nat, (-1) ≤ s_1.2.2.2.2.2.2.2.2.2.2.2.2.2.2.1 i ∧ s_1.2.2.2.2.2.2.2.2.2.2.2.2.2.2.1 i ≤ 13) ∧ (∀ i : Nat, (-1) ≤ s_1.2.2.2.2.2.2.2.2.2.2.2.2.2.2.2.1 i ∧ s_1.2.2.2.2.2.2.2.2.2.2.2.2.2.2.2.1 i ≤ 13) ∧ (∀ i : Nat, (-1) ≤ s_1.2.2.2.2.2.2.2.2.2.2.2.2.2.2.2.2.2.2.2.1 i ∧ s_1.2.2.2.2.2.2.2.2.2.2.2.2.2.2.2.2.2.2.2.1 i ≤ 3) ∧ (∀ i : Nat, 0 ≤ s_1.2.2.2.2.2.2.2.2.2.2.2.2.2.2.2.2.2.2.2.2.2 i ∧ s_1.2.2.2.2.2.2.2.2.2.2.2.2.2.2.2.2.2.2.2.2.2 i ≤ 13) ∧ 0 ≤ s_1.1 ∧ s_1.1 ≤ 41 ∧ 0 ≤ s_1.2.2.1 ∧ s_1.2.2.1 ≤ 1200 ∧ 0 ≤ s_1.2.2.2.1 ∧ s_1.2.2.2.1 ≤ 1200 ∧ 0 ≤ s_1.2.2.2.2.1 ∧ s_1.2.2.2.2.1 ≤ 4 ∧ s_1.2.2.2.2.1 ≤ v0_1 + 3 ∧ s_1.2.2.2.2.1 ≤ s_1.1 + 3) (fun s_1 => 41 - s_1.1) (by (try dsimp only); (repeat' apply And.intro) <;> first | with_reducible assumption | with_reducible exact fun _ => Or.inl rfl | with_reducible exact fun _ _ _ => rfl | with_reducible exact fun _ _ h => Or.inl h | with_reducible rfl | ((with_reducible refine zU1 ?_) <;> grind [z32_in]) | with_reducible exact zU1m | ((with_reducible refine zU4 ?_) <;> lia) | ((with_reducible refine zU3 ?_) <;> lia) | ((with_reducible refine zU6 ?_) <;> lia) | ((with_reducible refine zU8 ⟨?_, ?_⟩) <;> first | lia | grind) | ((with_reducible refine zO1 ?_) <;> with_reducible assumption) | ((with_reducible refine zO2 ?_) <;> with_reducible assumption) | ((with_reducible refine zU7 ?_ ⟨?_, ?_⟩) <;> first | with_reducible assumption | lia | grind) | ((with_reducible refine zC1 (d := 4) ⟨by decide, by decide⟩ ?_ ?_ ?_ ?_) <;> first | with_reducible assumption | lia) | ((with_reducible refine zC2 (d := 4) ⟨by decide, by decide⟩ ?_ ?_ ?_) <;> first | with_reducible assumption | lia) | ((with_reducible refine zC1 (d := 14) ⟨by decide, by decide⟩ ?_ ?_ ?_ ?_) <;> first | with_reducible assumption | lia) | ((with_reducible refine zC2 (d := 14) ⟨by decide, by decide⟩ ?_ ?_ ?_) <;> first | with_reducible assumption | lia) | ((with_reducible refine zC3 ?_ ?_ ?_) <;> first | with_reducible assumption | lia) | ((with_reducible refine zC4 ?_ ?_) <;> first | with_reducible assumption | lia) | exact fun _ => zTk3 ho_13_6 Hback_1_7 ho_13_8 Hback_1_1 ho_13_7 Hback_1_8 ho_13_9 Hback_1_2 Hback_1_11 (by with_reducible assumption) (Hj_11_0 c1).1 | first | lia | grind [zu_at, zu_atL, zvn]) (by (try dsimp only); first | lia | grind [zu_at, zu_atL, zvn]) (fun s_1 back_1 Hback_1 hback_1 => ?_)
  obtain ⟨s_1_0, s_1_1, s_1_2, s_1_3, s_1_4, s_1_5, s_1_6, s_1_7, s_1_8, s_1_9, s_1_10, s_1_11, s_1_12, s_1_13, s_1_14, s_1_15, s_1_16, s_1_17, s_1_18, s_1_19, s_1_20, s_1_21⟩ := s_1
  try dsimp only at Hback_1 hback_1
  obtain ⟨Hback_1_0, Hback_1_1, Hback_1_2, Hback_1_3, Hback_1_4, Hback_1_5, Hback_1_6, Hback_1_7, Hback_1_8, Hback_1_9, Hback_1_10, Hback_1_11, Hback_1_12, Hback_1_13, Hback_1_14, Hback_1_15, Hback_1_16, Hback_1_17, Hback_1_18, Hback_1_19, Hback_1_20, Hback_1_21, Hback_1_22⟩ := Hback_1
  refine zw_zb0 (sf_X12_goesWell s_1_4 (by first | with_reducible assumption | exact ⟨by with_reducible assumption, by with_reducible assumption⟩ | ((try clear hback_1); first | lia | grind [zu_at, zu_atL, zvn]))) (fun o_2 ho_2 => ?_)
  obtain ⟨ho_2_0, ho_2_1, ho_2_2, ho_2_3, ho_2_4, ho_2_5⟩ := ho_2
  refine zw_zj (fun s_6 => 0 ≤ s_6 ∧ s_6 ≤ 1200 ∧ s_1_2 ≤ s_6) (fun s_6 Hj_6 => ?_) (fun j_6 hj_6 => ?_)
  · obtain ⟨Hj_6_0, Hj_6_1, Hj_6_2⟩ := Hj_6
    refine zw_zb0 (sf_X12_goesWell s_1_4 (by first | with_reducible assumption | exact ⟨by with_reducible assumption, by with_reducible assumption⟩ | ((try clear hback_1); (try clear hj_6); first | lia | grind [zu_at, zu_atL, zvn]))) (fun o_7 ho_7 => ?_)
    obtain ⟨ho_7_0, ho_7_1, ho_7_2, ho_7_3, ho_7_4, ho_7_5⟩ := ho_7
    refine zw_zj (fun s_11 => (s_11.1 = 0 → 1 ≤ s_1_6 (1 : Int32).toNatClampNeg ∧ 1 ≤ s_1_11 (1 : Int32).toNatClampNeg) ∧ 0 ≤ s_11.1 ∧ s_11.1 ≤ 4 ∧ s_1_4 ≤ s_11.1) (fun s_11 Hj_11 => ?_) (fun j_11 hj_11 => ?_)
    · obtain ⟨s_11_0, s_11_1⟩ := s_11
      try dsimp only at Hj_11
      obtain ⟨Hj_11_0, Hj_11_1, Hj_11_2, Hj_11_3⟩ := Hj_11
      refine zw_if (fun c1 => ?_) (fun c1 => ?_)
      · refine zw_zb0 (sf_X12_copiesTask s_1_6 s_1_11 s_1_18 s_1_7 s_1_8 s_1_9 s_1_10 s_1_12 s_1_13 s_1_14 s_1_15 s_1_16 s_1_17 s_1_19 s_1_20 s_1_21 (by first | with_reducible assumption | exact ⟨by with_reducible assumption, by with_reducible assumption⟩ | ((try clear hback_1); (try clear hj_6); (try clear hj_11); first | lia | grind [zu_at, zu_atL, zvn])) (by first | with_reducible assumption | exact ⟨by with_reducible assumption, by with_reducible assumption⟩ | ((try clear hback_1); (try clear hj_6); (try clear hj_11); first | lia | grind [zu_at, zu_atL, zvn])) (by first | with_reducible assumption | exact ⟨by with_reducible assumption, by with_reducible assumption⟩ | ((try clear hback_1); (try clear hj_6); (try clear hj_11); first | lia | grind [zu_at, zu_atL, zvn])) (by first | with_reducible assumption | exact ⟨by with_reducible assumption, by with_reducible assumption⟩ | ((try clear hback_1); (try clear hj_6); (try clear hj_11); first | lia | grind [zu_at, zu_atL, zvn])) (by first | with_reducible assumption | exact ⟨by with_reducible assumption, by with_reducible assumption⟩ | ((try clear hback_1); (try clear hj_6); (try clear hj_11); first | lia | grind [zu_at, zu_atL, zvn])) (by first | with_reducible assumption | exact ⟨by with_reducible assumption, by with_reducible assumption⟩ | ((try clear hback_1); (try clear hj_6); (try clear hj_11); first | lia | grind [zu_at, zu_atL, zvn]))) (fun o_13 ho_13 => ?_)
        obtain ⟨o_13_0, o_13_1, o_13_2, o_13_3, o_13_4, o_13_5, o_13_6, o_13_7, o_13_8, o_13_9, o_13_10, o_13_11, o_13_12, o_13_13, o_13_14, o_13_15⟩ := o_13
        try dsimp only at ho_13
        obtain ⟨ho_13_0, ho_13_1, ho_13_2, ho_13_3, ho_13_4, ho_13_5, ho_13_6, ho_13_7, ho_13_8, ho_13_9⟩ := ho_13
        refine zw_zb0 (sf_X12_beginsChoice o_13_1 f19 o_13_13 o_13_15 (by first | with_reducible assumption | exact ⟨by with_reducible assumption, by with_reducible assumption⟩ | ((try clear hback_1); (try clear hj_6); (try clear hj_11); first | lia | grind [zu_at, zu_atL, zvn])) (by first | with_reducible assumption | exact ⟨by with_reducible assumption, by with_reducible assumption⟩ | ((try clear hback_1); (try clear hj_6); (try clear hj_11); first | lia | grind [zu_at, zu_atL, zvn])) (by first | with_reducible assumption | exact ⟨by with_reducible assumption, by with_reducible assumption⟩ | ((try clear hback_1); (try clear hj_6); (try clear hj_11); first | lia | grind [zu_at, zu_atL, zvn])) (by first | with_reducible assumption | exact ⟨by with_reducible assumption, by with_reducible assumption⟩ | ((try clear hback_1); (try clear hj_6); (try clear hj_11); first | lia | grind [zu_at, zu_atL, zvn]))) (fun o_17 ho_17 => ?_)
        obtain ⟨o_17_0, o_17_1⟩ := o_17
        try dsimp only at ho_17
        obtain ⟨ho_17_0, ho_17_1, ho_17_2, ho_17_3, ho_17_4⟩ := ho_17
        refine zw_some ?_
        first | exact True.intro | ((try dsimp only); (repeat' apply And.intro) <;> first | with_reducible assumption | with_reducible exact fun _ => Or.inl rfl | with_reducible exact fun _ _ _ => rfl | with_reducible exact fun _ _ h => Or.inl h | with_reducible rfl | ((with_reducible refine zU1 ?_) <;> grind [z32_in]) | with_reducible exact zU1m | ((with_reducible refine zU4 ?_) <;> ((try clear hback_1); (try clear hj_6); (try clear hj_11); lia)) | ((with_reducible refine zU3 ?_) <;> ((try clear hback_1); (try clear hj_6); (try clear hj_11); lia)) | ((with_reducible refine zU6 ?_) <;> ((try clear hback_1); (try clear hj_6); (try clear hj_11); lia)) | ((with_reducible refine zU8 ⟨?_, ?_⟩) <;> ((try clear hback_1); (try clear hj_6); (try clear hj_11); first | lia | grind)) | ((with_reducible refine zO1 ?_) <;> with_reducible assumption) | ((with_reducible refine zO2 ?_) <;> with_reducible assumption) | ((with_reducible refine zU7 ?_ ⟨?_, ?_⟩) <;> first | with_reducible assumption | lia | grind) | ((with_reducible refine zC1 (d := 4) ⟨by decide, by decide⟩ ?_ ?_ ?_ ?_) <;> first | with_reducible assumption | lia) | ((with_reducible refine zC2 (d := 4) ⟨by decide, by decide⟩ ?_ ?_ ?_) <;> first | with_reducible assumption | lia) | ((with_reducible refine zC1 (d := 14) ⟨by decide, by decide⟩ ?_ ?_ ?_ ?_) <;> first | with_reducible assumption | lia) | ((with_reducible refine zC2 (d := 14) ⟨by decide, by decide⟩ ?_ ?_ ?_) <;> first | with_reducible assumption | lia) | ((with_reducible refine zC3 ?_ ?_ ?_) <;> first | with_reducible assumption | lia) | ((with_reducible refine zC4 ?_ ?_) <;> first | with_reducible assumption | lia) | exact fun _ => zTk3 ho_13_6 Hback_1_7 ho_13_8 Hback_1_1 ho_13_7 Hback_1_8 ho_13_9 Hback_1_2 Hback_1_11 (by with_reducible assumption) (Hj_11_0 c1).1 | ((try clear hback_1); (try clear hj_6); (try clear hj_11); first | lia | grind [zu_at, zu_atL, zvn]))
      refine zw_zb0 (sf_X12_refuses 1 f20 (by first | with_reducible assumption | exact ⟨by with_reducible assumption, by with_reducible assumption⟩ | ((try clear hback_1); (try clear hj_6); (try clear hj_11); first | lia | grind [zu_at, zu_atL, zvn]))) (fun o_21 ho_21 => ?_)
      obtain ⟨o_21_0, o_21_1⟩ := o_21
      try dsimp only at ho_21
      obtain ⟨ho_21_0, ho_21_1⟩ := ho_21
      refine zw_some ?_
      first | exact True.intro | ((try dsimp only); (repeat' apply And.intro) <;> first | with_reducible assumption | with_reducible exact fun _ => Or.inl rfl | with_reducible exact fun _ _ _ => rfl | with_reducible exact fun _ _ h => Or.inl h | with_reducible rfl | ((with_reducible refine zU1 ?_) <;> grind [z32_in]) | with_reducible exact zU1m | ((with_reducible refine zU4 ?_) <;> ((try clear hback_1); (try clear hj_6); (try clear hj_11); lia)) | ((with_reducible refine zU3 ?_) <;> ((try clear hback_1); (try clear hj_6); (try clear hj_11); lia)) | ((with_reducible refine zU6 ?_) <;> ((try clear hback_1); (try clear hj_6); (try clear hj_11); lia)) | ((with_reducible refine zU8 ⟨?_, ?_⟩) <;> ((try clear hback_1); (try clear hj_6); (try clear hj_11); first | lia | grind)) | ((with_reducible refine zO1 ?_) <;> with_reducible assumption) | ((with_reducible refine zO2 ?_) <;> with_reducible assumption) | ((with_reducible refine zU7 ?_ ⟨?_, ?_⟩) <;> first | with_reducible assumption | lia | grind) | ((with_reducible refine zC1 (d := 4) ⟨by decide, by decide⟩ ?_ ?_ ?_ ?_) <;> first | with_reducible assumption | lia) | ((with_reducible refine zC2 (d := 4) ⟨by decide, by decide⟩ ?_ ?_ ?_) <;> first | with_reducible assumption | lia) | ((with_reducible refine zC1 (d := 14) ⟨by decide, by decide⟩ ?_ ?_ ?_ ?_) <;> first | with_reducible assumption | lia) | ((with_reducible refine zC2 (d := 14) ⟨by decide, by decide⟩ ?_ ?_ ?_) <;> first | with_reducible assumption | lia) | ((with_reducible refine zC3 ?_ ?_ ?_) <;> first | with_reducible assumption | lia) | ((with_reducible refine zC4 ?_ ?_) <;> first | with_reducible assumption | lia) | exact fun _ => zTk3 ho_13_6 Hback_1_7 ho_13_8 Hback_1_1 ho_13_7 Hback_1_8 ho_13_9 Hback_1_2 Hback_1_11 (by with_reducible assumption) (Hj_11_0 c1).1 | ((try clear hback_1); (try clear hj_6); (try clear hj_11); first | lia | grind [zu_at, zu_atL, zvn]))
    refine zw_if (fun c2 => ?_) (fun c2 => ?_)
    · exact hj_11 _ (by first | exact True.intro | ((try dsimp only); (repeat' apply And.intro) <;> first | with_reducible assumption | with_reducible exact fun _ => Or.inl rfl | with_reducible exact fun _ _ _ => rfl | with_reducible exact fun _ _ h => Or.inl h | with_reducible rfl | ((with_reducible refine zU1 ?_) <;> grind [z32_in]) | with_reducible exact zU1m | ((with_reducible refine zU4 ?_) <;> ((try clear hback_1); (try clear hj_6); (try clear hj_11); lia)) | ((with_reducible refine zU3 ?_) <;> ((try clear hback_1); (try clear hj_6); (try clear hj_11); lia)) | ((with_reducible refine zU6 ?_) <;> ((try clear hback_1); (try clear hj_6); (try clear hj_11); lia)) | ((with_reducible refine zU8 ⟨?_, ?_⟩) <;> ((try clear hback_1); (try clear hj_6); (try clear hj_11); first | lia | grind)) | ((with_reducible refine zO1 ?_) <;> with_reducible assumption) | ((with_reducible refine zO2 ?_) <;> with_reducible assumption) | ((with_reducible refine zU7 ?_ ⟨?_, ?_⟩) <;> first | with_reducible assumption | lia | grind) | ((with_reducible refine zC1 (d := 4) ⟨by decide, by decide⟩ ?_ ?_ ?_ ?_) <;> first | with_reducible assumption | lia) | ((with_reducible refine zC2 (d := 4) ⟨by decide, by decide⟩ ?_ ?_ ?_) <;> first | with_reducible assumption | lia) | ((with_reducible refine zC1 (d := 14) ⟨by decide, by decide⟩ ?_ ?_ ?_ ?_) <;> first | with_reducible assumption | lia) | ((with_reducible refine zC2 (d := 14) ⟨by decide, by decide⟩ ?_ ?_ ?_) <;> first | with_reducible assumption | lia) | ((with_reducible refine zC3 ?_ ?_ ?_) <;> first | with_reducible assumption | lia) | ((with_reducible refine zC4 ?_ ?_) <;> first | with_reducible assumption | lia) | exact fun _ => zTk3 ho_13_6 Hback_1_7 ho_13_8 Hback_1_1 ho_13_7 Hback_1_8 ho_13_9 Hback_1_2 Hback_1_11 (by with_reducible assumption) (Hj_11_0 c1).1 | ((try clear hback_1); (try clear hj_6); (try clear hj_11); first | lia | grind [zu_at, zu_atL, zvn])))
    refine zw_zj (fun _ => (s_1_6 (1 : Int32).toNatClampNeg) ≤ 4 ∧ 0 ≤ (s_1_6 (1 : Int32).toNatClampNeg)) (fun s_26 Hj_26 => ?_) (fun j_26 hj_26 => ?_)
    · obtain ⟨Hj_26_0, Hj_26_1⟩ := Hj_26
      refine zw_zb0 (sf_X12_faults 4 v0_1 s_1_4 s_1_5 (by first | with_reducible assumption | exact ⟨by with_reducible assumption, by with_reducible assumption⟩ | ((try clear hback_1); (try clear hj_6); (try clear hj_11); (try clear hj_26); first | lia | grind [zu_at, zu_atL, zvn])) (by first | with_reducible assumption | exact ⟨by with_reducible assumption, by with_reducible assumption⟩ | ((try clear hback_1); (try clear hj_6); (try clear hj_11); (try clear hj_26); first | lia | grind [zu_at, zu_atL, zvn]))) (fun o_27 ho_27 => ?_)
      obtain ⟨o_27_0, o_27_1⟩ := o_27
      try dsimp only at ho_27
      obtain ⟨ho_27_0, ho_27_1, ho_27_2, ho_27_3⟩ := ho_27
      exact hj_11 _ (by first | exact True.intro | ((try dsimp only); (repeat' apply And.intro) <;> first | with_reducible assumption | with_reducible exact fun _ => Or.inl rfl | with_reducible exact fun _ _ _ => rfl | with_reducible exact fun _ _ h => Or.inl h | with_reducible rfl | ((with_reducible refine zU1 ?_) <;> grind [z32_in]) | with_reducible exact zU1m | ((with_reducible refine zU4 ?_) <;> ((try clear hback_1); (try clear hj_6); (try clear hj_11); (try clear hj_26); lia)) | ((with_reducible refine zU3 ?_) <;> ((try clear hback_1); (try clear hj_6); (try clear hj_11); (try clear hj_26); lia)) | ((with_reducible refine zU6 ?_) <;> ((try clear hback_1); (try clear hj_6); (try clear hj_11); (try clear hj_26); lia)) | ((with_reducible refine zU8 ⟨?_, ?_⟩) <;> ((try clear hback_1); (try clear hj_6); (try clear hj_11); (try clear hj_26); first | lia | grind)) | ((with_reducible refine zO1 ?_) <;> with_reducible assumption) | ((with_reducible refine zO2 ?_) <;> with_reducible assumption) | ((with_reducible refine zU7 ?_ ⟨?_, ?_⟩) <;> first | with_reducible assumption | lia | grind) | ((with_reducible refine zC1 (d := 4) ⟨by decide, by decide⟩ ?_ ?_ ?_ ?_) <;> first | with_reducible assumption | lia) | ((with_reducible refine zC2 (d := 4) ⟨by decide, by decide⟩ ?_ ?_ ?_) <;> first | with_reducible assumption | lia) | ((with_reducible refine zC1 (d := 14) ⟨by decide, by decide⟩ ?_ ?_ ?_ ?_) <;> first | with_reducible assumption | lia) | ((with_reducible refine zC2 (d := 14) ⟨by decide, by decide⟩ ?_ ?_ ?_) <;> first | with_reducible assumption | lia) | ((with_reducible refine zC3 ?_ ?_ ?_) <;> first | with_reducible assumption | lia) | ((with_reducible refine zC4 ?_ ?_) <;> first | with_reducible assumption | lia) | exact fun _ => zTk3 ho_13_6 Hback_1_7 ho_13_8 Hback_1_1 ho_13_7 Hback_1_8 ho_13_9 Hback_1_2 Hback_1_11 (by with_reducible assumption) (Hj_11_0 c1).1 | ((try clear hback_1); (try clear hj_6); (try clear hj_11); (try clear hj_26); first | lia | grind [zu_at, zu_atL, zvn])))
    refine zw_if (fun c3 => ?_) (fun c3 => ?_)
    · exact hj_26 _ (by first | exact True.intro | ((try dsimp only); (repeat' apply And.intro) <;> first | with_reducible assumption | with_reducible exact fun _ => Or.inl rfl | with_reducible exact fun _ _ _ => rfl | with_reducible exact fun _ _ h => Or.inl h | with_reducible rfl | ((with_reducible refine zU1 ?_) <;> grind [z32_in]) | with_reducible exact zU1m | ((with_reducible refine zU4 ?_) <;> ((try clear hback_1); (try clear hj_6); (try clear hj_11); (try clear hj_26); lia)) | ((with_reducible refine zU3 ?_) <;> ((try clear hback_1); (try clear hj_6); (try clear hj_11); (try clear hj_26); lia)) | ((with_reducible refine zU6 ?_) <;> ((try clear hback_1); (try clear hj_6); (try clear hj_11); (try clear hj_26); lia)) | ((with_reducible refine zU8 ⟨?_, ?_⟩) <;> ((try clear hback_1); (try clear hj_6); (try clear hj_11); (try clear hj_26); first | lia | grind)) | ((with_reducible refine zO1 ?_) <;> with_reducible assumption) | ((with_reducible refine zO2 ?_) <;> with_reducible assumption) | ((with_reducible refine zU7 ?_ ⟨?_, ?_⟩) <;> first | with_reducible assumption | lia | grind) | ((with_reducible refine zC1 (d := 4) ⟨by decide, by decide⟩ ?_ ?_ ?_ ?_) <;> first | with_reducible assumption | lia) | ((with_reducible refine zC2 (d := 4) ⟨by decide, by decide⟩ ?_ ?_ ?_) <;> first | with_reducible assumption | lia) | ((with_reducible refine zC1 (d := 14) ⟨by decide, by decide⟩ ?_ ?_ ?_ ?_) <;> first | with_reducible assumption | lia) | ((with_reducible refine zC2 (d := 14) ⟨by decide, by decide⟩ ?_ ?_ ?_) <;> first | with_reducible assumption | lia) | ((with_reducible refine zC3 ?_ ?_ ?_) <;> first | with_reducible assumption | lia) | ((with_reducible refine zC4 ?_ ?_) <;> first | with_reducible assumption | lia) | exact fun _ => zTk3 ho_13_6 Hback_1_7 ho_13_8 Hback_1_1 ho_13_7 Hback_1_8 ho_13_9 Hback_1_2 Hback_1_11 (by with_reducible assumption) (Hj_11_0 c1).1 | ((try clear hback_1); (try clear hj_6); (try clear hj_11); (try clear hj_26); first | lia | grind [zu_at, zu_atL, zvn])))
    refine zw_if (fun c4 => ?_) (fun c4 => ?_)
    · exact hj_26 _ (by first | exact True.intro | ((try dsimp only); (repeat' apply And.intro) <;> first | with_reducible assumption | with_reducible exact fun _ => Or.inl rfl | with_reducible exact fun _ _ _ => rfl | with_reducible exact fun _ _ h => Or.inl h | with_reducible rfl | ((with_reducible refine zU1 ?_) <;> grind [z32_in]) | with_reducible exact zU1m | ((with_reducible refine zU4 ?_) <;> ((try clear hback_1); (try clear hj_6); (try clear hj_11); (try clear hj_26); lia)) | ((with_reducible refine zU3 ?_) <;> ((try clear hback_1); (try clear hj_6); (try clear hj_11); (try clear hj_26); lia)) | ((with_reducible refine zU6 ?_) <;> ((try clear hback_1); (try clear hj_6); (try clear hj_11); (try clear hj_26); lia)) | ((with_reducible refine zU8 ⟨?_, ?_⟩) <;> ((try clear hback_1); (try clear hj_6); (try clear hj_11); (try clear hj_26); first | lia | grind)) | ((with_reducible refine zO1 ?_) <;> with_reducible assumption) | ((with_reducible refine zO2 ?_) <;> with_reducible assumption) | ((with_reducible refine zU7 ?_ ⟨?_, ?_⟩) <;> first | with_reducible assumption | lia | grind) | ((with_reducible refine zC1 (d := 4) ⟨by decide, by decide⟩ ?_ ?_ ?_ ?_) <;> first | with_reducible assumption | lia) | ((with_reducible refine zC2 (d := 4) ⟨by decide, by decide⟩ ?_ ?_ ?_) <;> first | with_reducible assumption | lia) | ((with_reducible refine zC1 (d := 14) ⟨by decide, by decide⟩ ?_ ?_ ?_ ?_) <;> first | with_reducible assumption | lia) | ((with_reducible refine zC2 (d := 14) ⟨by decide, by decide⟩ ?_ ?_ ?_) <;> first | with_reducible assumption | lia) | ((with_reducible refine zC3 ?_ ?_ ?_) <;> first | with_reducible assumption | lia) | ((with_reducible refine zC4 ?_ ?_) <;> first | with_reducible assumption | lia) | exact fun _ => zTk3 ho_13_6 Hback_1_7 ho_13_8 Hback_1_1 ho_13_7 Hback_1_8 ho_13_9 Hback_1_2 Hback_1_11 (by with_reducible assumption) (Hj_11_0 c1).1 | ((try clear hback_1); (try clear hj_6); (try clear hj_11); (try clear hj_26); first | lia | grind [zu_at, zu_atL, zvn])))
    exact hj_11 _ (by first | exact True.intro | ((try dsimp only); (repeat' apply And.intro) <;> first | with_reducible assumption | with_reducible exact fun _ => Or.inl rfl | with_reducible exact fun _ _ _ => rfl | with_reducible exact fun _ _ h => Or.inl h | with_reducible rfl | ((with_reducible refine zU1 ?_) <;> grind [z32_in]) | with_reducible exact zU1m | ((with_reducible refine zU4 ?_) <;> ((try clear hback_1); (try clear hj_6); (try clear hj_11); (try clear hj_26); lia)) | ((with_reducible refine zU3 ?_) <;> ((try clear hback_1); (try clear hj_6); (try clear hj_11); (try clear hj_26); lia)) | ((with_reducible refine zU6 ?_) <;> ((try clear hback_1); (try clear hj_6); (try clear hj_11); (try clear hj_26); lia)) | ((with_reducible refine zU8 ⟨?_, ?_⟩) <;> ((try clear hback_1); (try clear hj_6); (try clear hj_11); (try clear hj_26); first | lia | grind)) | ((with_reducible refine zO1 ?_) <;> with_reducible assumption) | ((with_reducible refine zO2 ?_) <;> with_reducible assumption) | ((with_reducible refine zU7 ?_ ⟨?_, ?_⟩) <;> first | with_reducible assumption | lia | grind) | ((with_reducible refine zC1 (d := 4) ⟨by decide, by decide⟩ ?_ ?_ ?_ ?_) <;> first | with_reducible assumption | lia) | ((with_reducible refine zC2 (d := 4) ⟨by decide, by decide⟩ ?_ ?_ ?_) <;> first | with_reducible assumption | lia) | ((with_reducible refine zC1 (d := 14) ⟨by decide, by decide⟩ ?_ ?_ ?_ ?_) <;> first | with_reducible assumption | lia) | ((with_reducible refine zC2 (d := 14) ⟨by decide, by decide⟩ ?_ ?_ ?_) <;> first | with_reducible assumption | lia) | ((with_reducible refine zC3 ?_ ?_ ?_) <;> first | with_reducible assumption | lia) | ((with_reducible refine zC4 ?_ ?_) <;> first | with_reducible assumption | lia) | exact fun _ => zTk3 ho_13_6 Hback_1_7 ho_13_8 Hback_1_1 ho_13_7 Hback_1_8 ho_13_9 Hback_1_2 Hback_1_11 (by with_reducible assumption) (Hj_11_0 c1).1 | ((try clear hback_1); (try clear hj_6); (try clear hj_11); (try clear hj_26); first | lia | grind [zu_at, zu_atL, zvn])))
  refine zw_if (fun c5 => ?_) (fun c5 => ?_)
  · exact hj_6 _ (by first | exact True.intro | ((try dsimp only); (repeat' apply And.intro) <;> first | with_reducible assumption | with_reducible exact fun _ => Or.inl rfl | with_reducible exact fun _ _ _ => rfl | with_reducible exact fun _ _ h => Or.inl h | with_reducible rfl | ((with_reducible refine zU1 ?_) <;> grind [z32_in]) | with_reducible exact zU1m | ((with_reducible refine zU4 ?_) <;> ((try clear hback_1); (try clear hj_6); (try clear hj_11); (try clear hj_26); lia)) | ((with_reducible refine zU3 ?_) <;> ((try clear hback_1); (try clear hj_6); (try clear hj_11); (try clear hj_26); lia)) | ((with_reducible refine zU6 ?_) <;> ((try clear hback_1); (try clear hj_6); (try clear hj_11); (try clear hj_26); lia)) | ((with_reducible refine zU8 ⟨?_, ?_⟩) <;> ((try clear hback_1); (try clear hj_6); (try clear hj_11); (try clear hj_26); first | lia | grind)) | ((with_reducible refine zO1 ?_) <;> with_reducible assumption) | ((with_reducible refine zO2 ?_) <;> with_reducible assumption) | ((with_reducible refine zU7 ?_ ⟨?_, ?_⟩) <;> first | with_reducible assumption | lia | grind) | ((with_reducible refine zC1 (d := 4) ⟨by decide, by decide⟩ ?_ ?_ ?_ ?_) <;> first | with_reducible assumption | lia) | ((with_reducible refine zC2 (d := 4) ⟨by decide, by decide⟩ ?_ ?_ ?_) <;> first | with_reducible assumption | lia) | ((with_reducible refine zC1 (d := 14) ⟨by decide, by decide⟩ ?_ ?_ ?_ ?_) <;> first | with_reducible assumption | lia) | ((with_reducible refine zC2 (d := 14) ⟨by decide, by decide⟩ ?_ ?_ ?_) <;> first | with_reducible assumption | lia) | ((with_reducible refine zC3 ?_ ?_ ?_) <;> first | with_reducible assumption | lia) | ((with_reducible refine zC4 ?_ ?_) <;> first | with_reducible assumption | lia) | exact fun _ => zTk3 ho_13_6 Hback_1_7 ho_13_8 Hback_1_1 ho_13_7 Hback_1_8 ho_13_9 Hback_1_2 Hback_1_11 (by with_reducible assumption) (Hj_11_0 c1).1 | ((try clear hback_1); (try clear hj_6); (try clear hj_11); (try clear hj_26); first | lia | grind [zu_at, zu_atL, zvn])))
  refine zw_zb0 (sf_X12_here v0_1 s_1_2 f4 (by first | with_reducible assumption | exact ⟨by with_reducible assumption, by with_reducible assumption⟩ | ((try clear hback_1); (try clear hj_6); (try clear hj_11); (try clear hj_26); first | lia | grind [zu_at, zu_atL, zvn])) (by first | with_reducible assumption | exact ⟨by with_reducible assumption, by with_reducible assumption⟩ | ((try clear hback_1); (try clear hj_6); (try clear hj_11); (try clear hj_26); first | lia | grind [zu_at, zu_atL, zvn])) (by first | with_reducible assumption | exact ⟨by with_reducible assumption, by with_reducible assumption⟩ | ((try clear hback_1); (try clear hj_6); (try clear hj_11); (try clear hj_26); first | lia | grind [zu_at, zu_atL, zvn]))) (fun o_34 ho_34 => ?_)
  obtain ⟨o_34_0, o_34_1⟩ := o_34
  try dsimp only at ho_34
  obtain ⟨ho_34_0, ho_34_1, ho_34_2, ho_34_3, ho_34_4, ho_34_5, ho_34_6⟩ := ho_34
  refine zw_if (fun c6 => ?_) (fun c6 => ?_)
  · exact hj_6 _ (by first | exact True.intro | ((try dsimp only); (repeat' apply And.intro) <;> first | with_reducible assumption | with_reducible exact fun _ => Or.inl rfl | with_reducible exact fun _ _ _ => rfl | with_reducible exact fun _ _ h => Or.inl h | with_reducible rfl | ((with_reducible refine zU1 ?_) <;> grind [z32_in]) | with_reducible exact zU1m | ((with_reducible refine zU4 ?_) <;> ((try clear hback_1); (try clear hj_6); (try clear hj_11); (try clear hj_26); lia)) | ((with_reducible refine zU3 ?_) <;> ((try clear hback_1); (try clear hj_6); (try clear hj_11); (try clear hj_26); lia)) | ((with_reducible refine zU6 ?_) <;> ((try clear hback_1); (try clear hj_6); (try clear hj_11); (try clear hj_26); lia)) | ((with_reducible refine zU8 ⟨?_, ?_⟩) <;> ((try clear hback_1); (try clear hj_6); (try clear hj_11); (try clear hj_26); first | lia | grind)) | ((with_reducible refine zO1 ?_) <;> with_reducible assumption) | ((with_reducible refine zO2 ?_) <;> with_reducible assumption) | ((with_reducible refine zU7 ?_ ⟨?_, ?_⟩) <;> first | with_reducible assumption | lia | grind) | ((with_reducible refine zC1 (d := 4) ⟨by decide, by decide⟩ ?_ ?_ ?_ ?_) <;> first | with_reducible assumption | lia) | ((with_reducible refine zC2 (d := 4) ⟨by decide, by decide⟩ ?_ ?_ ?_) <;> first | with_reducible assumption | lia) | ((with_reducible refine zC1 (d := 14) ⟨by decide, by decide⟩ ?_ ?_ ?_ ?_) <;> first | with_reducible assumption | lia) | ((with_reducible refine zC2 (d := 14) ⟨by decide, by decide⟩ ?_ ?_ ?_) <;> first | with_reducible assumption | lia) | ((with_reducible refine zC3 ?_ ?_ ?_) <;> first | with_reducible assumption | lia) | ((with_reducible refine zC4 ?_ ?_) <;> first | with_reducible assumption | lia) | exact fun _ => zTk3 ho_13_6 Hback_1_7 ho_13_8 Hback_1_1 ho_13_7 Hback_1_8 ho_13_9 Hback_1_2 Hback_1_11 (by with_reducible assumption) (Hj_11_0 c1).1 | ((try clear hback_1); (try clear hj_6); (try clear hj_11); (try clear hj_26); first | lia | grind [zu_at, zu_atL, zvn])))
  refine zw_zb0 (sf_X12_readsStatement s_1_0 v0_1 o_34_1 s_1_3 s_1_4 s_1_5 1 s_1_1 f4 f5 s_1_6 s_1_11 s_1_7 s_1_12 s_1_8 s_1_9 s_1_10 s_1_20 s_1_18 s_1_13 s_1_14 s_1_15 s_1_19 s_1_21 s_1_16 s_1_17 (by first | with_reducible assumption | exact ⟨by with_reducible assumption, by with_reducible assumption⟩ | ((try clear hback_1); (try clear hj_6); (try clear hj_11); (try clear hj_26); first | lia | grind [zu_at, zu_atL, zvn])) (by first | with_reducible assumption | exact ⟨by with_reducible assumption, by with_reducible assumption⟩ | ((try clear hback_1); (try clear hj_6); (try clear hj_11); (try clear hj_26); first | lia | grind [zu_at, zu_atL, zvn])) (by first | with_reducible assumption | exact ⟨by with_reducible assumption, by with_reducible assumption⟩ | ((try clear hback_1); (try clear hj_6); (try clear hj_11); (try clear hj_26); first | lia | grind [zu_at, zu_atL, zvn])) (by first | with_reducible assumption | exact ⟨by with_reducible assumption, by with_reducible assumption⟩ | ((try clear hback_1); (try clear hj_6); (try clear hj_11); (try clear hj_26); first | lia | grind [zu_at, zu_atL, zvn])) (by first | with_reducible assumption | exact ⟨by with_reducible assumption, by with_reducible assumption⟩ | ((try clear hback_1); (try clear hj_6); (try clear hj_11); (try clear hj_26); first | lia | grind [zu_at, zu_atL, zvn])) (by first | with_reducible assumption | exact ⟨by with_reducible assumption, by with_reducible assumption⟩ | ((try clear hback_1); (try clear hj_6); (try clear hj_11); (try clear hj_26); first | lia | grind [zu_at, zu_atL, zvn])) (by first | with_reducible assumption | exact ⟨by with_reducible assumption, by with_reducible assumption⟩ | ((try clear hback_1); (try clear hj_6); (try clear hj_11); (try clear hj_26); first | lia | grind [zu_at, zu_atL, zvn])) (by first | with_reducible assumption | exact ⟨by with_reducible assumption, by with_reducible assumption⟩ | ((try clear hback_1); (try clear hj_6); (try clear hj_11); (try clear hj_26); first | lia | grind [zu_at, zu_atL, zvn])) (by first | with_reducible assumption | exact ⟨by with_reducible assumption, by with_reducible assumption⟩ | ((try clear hback_1); (try clear hj_6); (try clear hj_11); (try clear hj_26); first | lia | grind [zu_at, zu_atL, zvn])) (by first | with_reducible assumption | exact ⟨by with_reducible assumption, by with_reducible assumption⟩ | ((try clear hback_1); (try clear hj_6); (try clear hj_11); (try clear hj_26); first | lia | grind [zu_at, zu_atL, zvn])) (by first | with_reducible assumption | exact ⟨by with_reducible assumption, by with_reducible assumption⟩ | ((try clear hback_1); (try clear hj_6); (try clear hj_11); (try clear hj_26); first | lia | grind [zu_at, zu_atL, zvn])) (by first | with_reducible assumption | exact ⟨by with_reducible assumption, by with_reducible assumption⟩ | ((try clear hback_1); (try clear hj_6); (try clear hj_11); (try clear hj_26); first | lia | grind [zu_at, zu_atL, zvn])) (by first | with_reducible assumption | exact ⟨by with_reducible assumption, by with_reducible assumption⟩ | ((try clear hback_1); (try clear hj_6); (try clear hj_11); (try clear hj_26); first | lia | grind [zu_at, zu_atL, zvn])) (by first | with_reducible assumption | exact ⟨by with_reducible assumption, by with_reducible assumption⟩ | ((try clear hback_1); (try clear hj_6); (try clear hj_11); (try clear hj_26); first | lia | grind [zu_at, zu_atL, zvn]))) (fun o_39 ho_39 => ?_)
  obtain ⟨o_39_0, o_39_1, o_39_2, o_39_3, o_39_4, o_39_5, o_39_6, o_39_7, o_39_8, o_39_9, o_39_10, o_39_11, o_39_12, o_39_13, o_39_14, o_39_15, o_39_16, o_39_17, o_39_18, o_39_19, o_39_20⟩ := o_39
  try dsimp only at ho_39
  obtain ⟨ho_39_0, ho_39_1, ho_39_2, ho_39_3, ho_39_4, ho_39_5, ho_39_6, ho_39_7, ho_39_8, ho_39_9, ho_39_10, ho_39_11, ho_39_12, ho_39_13, ho_39_14, ho_39_15, ho_39_16, ho_39_17, ho_39_18, ho_39_19, ho_39_20, ho_39_21⟩ := ho_39
  exact hback_1 _ (by (try dsimp only); (repeat' apply And.intro) <;> first | with_reducible assumption | with_reducible exact fun _ => Or.inl rfl | with_reducible exact fun _ _ _ => rfl | with_reducible exact fun _ _ h => Or.inl h | with_reducible rfl | ((with_reducible refine zU1 ?_) <;> grind [z32_in]) | with_reducible exact zU1m | ((with_reducible refine zU4 ?_) <;> ((try clear hback_1); (try clear hj_6); (try clear hj_11); (try clear hj_26); lia)) | ((with_reducible refine zU3 ?_) <;> ((try clear hback_1); (try clear hj_6); (try clear hj_11); (try clear hj_26); lia)) | ((with_reducible refine zU6 ?_) <;> ((try clear hback_1); (try clear hj_6); (try clear hj_11); (try clear hj_26); lia)) | ((with_reducible refine zU8 ⟨?_, ?_⟩) <;> ((try clear hback_1); (try clear hj_6); (try clear hj_11); (try clear hj_26); first | lia | grind)) | ((with_reducible refine zO1 ?_) <;> with_reducible assumption) | ((with_reducible refine zO2 ?_) <;> with_reducible assumption) | ((with_reducible refine zU7 ?_ ⟨?_, ?_⟩) <;> first | with_reducible assumption | lia | grind) | ((with_reducible refine zC1 (d := 4) ⟨by decide, by decide⟩ ?_ ?_ ?_ ?_) <;> first | with_reducible assumption | lia) | ((with_reducible refine zC2 (d := 4) ⟨by decide, by decide⟩ ?_ ?_ ?_) <;> first | with_reducible assumption | lia) | ((with_reducible refine zC1 (d := 14) ⟨by decide, by decide⟩ ?_ ?_ ?_ ?_) <;> first | with_reducible assumption | lia) | ((with_reducible refine zC2 (d := 14) ⟨by decide, by decide⟩ ?_ ?_ ?_) <;> first | with_reducible assumption | lia) | ((with_reducible refine zC3 ?_ ?_ ?_) <;> first | with_reducible assumption | lia) | ((with_reducible refine zC4 ?_ ?_) <;> first | with_reducible assumption | lia) | exact fun _ => zTk3 ho_13_6 Hback_1_7 ho_13_8 Hback_1_1 ho_13_7 Hback_1_8 ho_13_9 Hback_1_2 Hback_1_11 (by with_reducible assumption) (Hj_11_0 c1).1 | ((try clear hback_1); (try clear hj_6); (try clear hj_11); (try clear hj_26); first | lia | grind [zu_at, zu_atL, zvn])) (by (try dsimp only); ((try clear hback_1); (try clear hj_6); (try clear hj_11); (try clear hj_26); first | lia | grind [zu_at, zu_atL, zvn])) (by (try dsimp only); ((try clear hback_1); (try clear hj_6); (try clear hj_11); (try clear hj_26); first | lia | grind [zu_at, zu_atL, zvn]))
set_option maxHeartbeats 4000000 in
set_option maxRecDepth 100000 in
theorem sf_X12_fault (p1 : Int32) (v0_3 : Int32) (v0_4 : Int32) : zw (fn_X12_fault p1 v0_3 v0_4) (fun r => True) := by
  unfold fn_X12_fault
  refine zw_if (fun c1 => ?_) (fun c1 => ?_)
  · refine zw_some ?_
    first | exact True.intro | ((try dsimp only); (repeat' apply And.intro) <;> first | with_reducible assumption | first | lia | grind [zu_at, zu_atL, zvn])
  refine zw_if (fun c2 => ?_) (fun c2 => ?_)
  · refine zw_some ?_
    first | exact True.intro | ((try dsimp only); (repeat' apply And.intro) <;> first | with_reducible assumption | first | lia | grind [zu_at, zu_atL, zvn])
  refine zw_some ?_
  first | exact True.intro | ((try dsimp only); (repeat' apply And.intro) <;> first | with_reducible assumption | first | lia | grind [zu_at, zu_atL, zvn])
set_option maxHeartbeats 4000000 in
set_option maxRecDepth 100000 in
theorem sf_X12_isNumber (p1 : Int32) (f1 : Nat → Int32) (h_f1 : (∀ i : Nat, 0 ≤ f1 i ∧ f1 i ≤ 14)) : zw (fn_X12_isNumber p1 f1) (fun r => 0 ≤ r ∧ r ≤ 1 ∧ r ≤ (f1 (0 : Int32).toNatClampNeg) ∧ (¬ r = 0 → 0 ≤ p1 ∧ 1 ≤ r ∧ p1 ≤ 13 ∧ p1 < (f1 (0 : Int32).toNatClampNeg)) ∧ (r = 1 → 0 ≤ p1 ∧ p1 ≤ 13 ∧ 1 ≤ (f1 (0 : Int32).toNatClampNeg) ∧ p1 < (f1 (0 : Int32).toNatClampNeg)) ∧ (¬ r = 1 → r ≤ 0)) := by
  unfold fn_X12_isNumber
  refine zw_zb0 (sf_X12_isIn p1.toInt64 (0 : Int64) ((f1 (0 : Int32).toNatClampNeg).toInt64 - (1 : Int64))) (fun o_1 ho_1 => ?_)
  obtain ⟨ho_1_0, ho_1_1, ho_1_2, ho_1_3, ho_1_4⟩ := ho_1
  have hz1 := z64_ge0 p1
  have hz2 := z64_ltm p1 (f1 (0 : Int32).toNatClampNeg) (h_f1 _).1
  refine zw_some ?_
  first | exact True.intro | ((try dsimp only); (repeat' apply And.intro) <;> first | with_reducible assumption | first | lia | grind [zu_at, zu_atL, zvn])
set_option maxHeartbeats 4000000 in
set_option maxRecDepth 100000 in
theorem sf_X12_isFormat (p1 : Int32) (f1 : Nat → Int32) (h_f1 : (∀ i : Nat, 0 ≤ f1 i ∧ f1 i ≤ 4)) : zw (fn_X12_isFormat p1 f1) (fun r => 0 ≤ r ∧ r ≤ 1 ∧ r ≤ (f1 (0 : Int32).toNatClampNeg) ∧ (f1 (0 : Int32).toNatClampNeg) ≤ r + 4 ∧ (¬ r = 0 → 0 ≤ p1 ∧ 1 ≤ r ∧ p1 ≤ 3 ∧ p1 < (f1 (0 : Int32).toNatClampNeg)) ∧ (r = 1 → 0 ≤ p1 ∧ p1 ≤ 3 ∧ p1 ≤ r + 2 ∧ 1 ≤ (f1 (0 : Int32).toNatClampNeg) ∧ p1 < (f1 (0 : Int32).toNatClampNeg) ∧ (f1 (0 : Int32).toNatClampNeg) ≤ r + 3) ∧ (¬ r = 1 → r ≤ 0)) := by
  unfold fn_X12_isFormat
  refine zw_zb0 (sf_X12_isIn p1.toInt64 (0 : Int64) ((f1 (0 : Int32).toNatClampNeg).toInt64 - (1 : Int64))) (fun o_1 ho_1 => ?_)
  obtain ⟨ho_1_0, ho_1_1, ho_1_2, ho_1_3, ho_1_4⟩ := ho_1
  have hz1 := z64_ge0 p1
  have hz2 := z64_ltm p1 (f1 (0 : Int32).toNatClampNeg) (h_f1 _).1
  refine zw_some ?_
  first | exact True.intro | ((try dsimp only); (repeat' apply And.intro) <;> first | with_reducible assumption | first | lia | grind [zu_at, zu_atL, zvn])
set_option maxHeartbeats 4000000 in
set_option maxRecDepth 100000 in
theorem sf_X12_inputs (f1 : Nat → Int32) (f2 : Nat → Int32) (h_f1 : (∀ i : Nat, 0 ≤ f1 i ∧ f1 i ≤ 14)) : zw (fn_X12_inputs f1 f2) (fun r => 0 ≤ r ∧ r ≤ 14) := by
  unfold fn_X12_inputs
  refine zw_zl32 (fun s_1 => 0 ≤ s_1.1 ∧ 0 ≤ s_1.2 ∧ s_1.1 ≤ 14 ∧ s_1.2 ≤ 14 ∧ s_1.1 ≤ s_1.2) (fun s_1 => 14 - s_1.2) (by (try dsimp only); (repeat' apply And.intro) <;> first | with_reducible assumption | first | lia | grind [zu_at, zu_atL, zvn]) (by (try dsimp only); first | lia | grind [zu_at, zu_atL, zvn]) (fun s_1 back_1 Hback_1 hback_1 => ?_)
  obtain ⟨s_1_0, s_1_1⟩ := s_1
  try dsimp only at Hback_1 hback_1
  obtain ⟨Hback_1_0, Hback_1_1, Hback_1_2, Hback_1_3, Hback_1_4⟩ := Hback_1
  refine zw_if (fun c1 => ?_) (fun c1 => ?_)
  · refine zw_some ?_
    first | exact True.intro | ((try dsimp only); (repeat' apply And.intro) <;> first | with_reducible assumption | ((try clear hback_1); first | lia | grind [zu_at, zu_atL, zvn]))
  refine zw_zg32 28 (by decide) (by (try dsimp only); ((try clear hback_1); first | lia | grind [zu_at, zu_atL, zvn])) ?_
  refine zw_if (fun c2 => ?_) (fun c2 => ?_)
  · exact hback_1 _ (by (try dsimp only); (repeat' apply And.intro) <;> first | with_reducible assumption | ((try clear hback_1); first | lia | grind [zu_at, zu_atL, zvn])) (by (try dsimp only); ((try clear hback_1); first | lia | grind [zu_at, zu_atL, zvn])) (by (try dsimp only); ((try clear hback_1); first | lia | grind [zu_at, zu_atL, zvn]))
  exact hback_1 _ (by (try dsimp only); (repeat' apply And.intro) <;> first | with_reducible assumption | ((try clear hback_1); first | lia | grind [zu_at, zu_atL, zvn])) (by (try dsimp only); ((try clear hback_1); first | lia | grind [zu_at, zu_atL, zvn])) (by (try dsimp only); ((try clear hback_1); first | lia | grind [zu_at, zu_atL, zvn]))
set_option maxHeartbeats 4000000 in
set_option maxRecDepth 100000 in
theorem sf_X12_answers (f1 : Nat → Int32) (f2 : Nat → Int32) (h_f1 : (∀ i : Nat, 0 ≤ f1 i ∧ f1 i ≤ 14)) : zw (fn_X12_answers f1 f2) (fun r => 0 ≤ r ∧ r ≤ 14) := by
  unfold fn_X12_answers
  refine zw_zl32 (fun s_1 => 0 ≤ s_1.1 ∧ 0 ≤ s_1.2 ∧ s_1.1 ≤ 14 ∧ s_1.2 ≤ 14 ∧ s_1.1 ≤ s_1.2) (fun s_1 => 14 - s_1.2) (by (try dsimp only); (repeat' apply And.intro) <;> first | with_reducible assumption | first | lia | grind [zu_at, zu_atL, zvn]) (by (try dsimp only); first | lia | grind [zu_at, zu_atL, zvn]) (fun s_1 back_1 Hback_1 hback_1 => ?_)
  obtain ⟨s_1_0, s_1_1⟩ := s_1
  try dsimp only at Hback_1 hback_1
  obtain ⟨Hback_1_0, Hback_1_1, Hback_1_2, Hback_1_3, Hback_1_4⟩ := Hback_1
  refine zw_if (fun c1 => ?_) (fun c1 => ?_)
  · refine zw_some ?_
    first | exact True.intro | ((try dsimp only); (repeat' apply And.intro) <;> first | with_reducible assumption | ((try clear hback_1); first | lia | grind [zu_at, zu_atL, zvn]))
  refine zw_zg32 28 (by decide) (by (try dsimp only); ((try clear hback_1); first | lia | grind [zu_at, zu_atL, zvn])) ?_
  refine zw_if (fun c2 => ?_) (fun c2 => ?_)
  · exact hback_1 _ (by (try dsimp only); (repeat' apply And.intro) <;> first | with_reducible assumption | ((try clear hback_1); first | lia | grind [zu_at, zu_atL, zvn])) (by (try dsimp only); ((try clear hback_1); first | lia | grind [zu_at, zu_atL, zvn])) (by (try dsimp only); ((try clear hback_1); first | lia | grind [zu_at, zu_atL, zvn]))
  exact hback_1 _ (by (try dsimp only); (repeat' apply And.intro) <;> first | with_reducible assumption | ((try clear hback_1); first | lia | grind [zu_at, zu_atL, zvn])) (by (try dsimp only); ((try clear hback_1); first | lia | grind [zu_at, zu_atL, zvn])) (by (try dsimp only); ((try clear hback_1); first | lia | grind [zu_at, zu_atL, zvn]))
set_option maxHeartbeats 4000000 in
set_option maxRecDepth 100000 in
theorem sf_X12_groups (f1 : Nat → Int32) (f2 : Nat → Int32) (h_f1 : (∀ i : Nat, 0 ≤ f1 i ∧ f1 i ≤ 14)) (h_f2 : (∀ i : Nat, 0 ≤ f2 i ∧ f2 i ≤ 13)) : zw (fn_X12_groups f1 f2) (fun r => 0 ≤ r ∧ r ≤ 14) := by
  unfold fn_X12_groups
  refine zw_zl32 (fun s_1 => 0 ≤ s_1.1 ∧ 0 ≤ s_1.2 ∧ s_1.1 ≤ 14 ∧ s_1.2 ≤ 14 ∧ s_1.1 ≤ s_1.2) (fun s_1 => 14 - s_1.2) (by (try dsimp only); (repeat' apply And.intro) <;> first | with_reducible assumption | first | lia | grind [zu_at, zu_atL, zvn]) (by (try dsimp only); first | lia | grind [zu_at, zu_atL, zvn]) (fun s_1 back_1 Hback_1 hback_1 => ?_)
  obtain ⟨s_1_0, s_1_1⟩ := s_1
  try dsimp only at Hback_1 hback_1
  obtain ⟨Hback_1_0, Hback_1_1, Hback_1_2, Hback_1_3, Hback_1_4⟩ := Hback_1
  refine zw_if (fun c1 => ?_) (fun c1 => ?_)
  · refine zw_some ?_
    first | exact True.intro | ((try dsimp only); (repeat' apply And.intro) <;> first | with_reducible assumption | ((try clear hback_1); first | lia | grind [zu_at, zu_atL, zvn]))
  refine zw_zg32 28 (by decide) (by (try dsimp only); ((try clear hback_1); first | lia | grind [zu_at, zu_atL, zvn])) ?_
  refine zw_if (fun c2 => ?_) (fun c2 => ?_)
  · exact hback_1 _ (by (try dsimp only); (repeat' apply And.intro) <;> first | with_reducible assumption | ((try clear hback_1); first | lia | grind [zu_at, zu_atL, zvn])) (by (try dsimp only); ((try clear hback_1); first | lia | grind [zu_at, zu_atL, zvn])) (by (try dsimp only); ((try clear hback_1); first | lia | grind [zu_at, zu_atL, zvn]))
  exact hback_1 _ (by (try dsimp only); (repeat' apply And.intro) <;> first | with_reducible assumption | ((try clear hback_1); first | lia | grind [zu_at, zu_atL, zvn])) (by (try dsimp only); ((try clear hback_1); first | lia | grind [zu_at, zu_atL, zvn])) (by (try dsimp only); ((try clear hback_1); first | lia | grind [zu_at, zu_atL, zvn]))
set_option maxHeartbeats 4000000 in
set_option maxRecDepth 100000 in
theorem sf_X12_isFree (p1 : Int32) (f1 : Nat → Int32) (f2 : Nat → Int32) (f3 : Nat → Int32) (h_f1 : (∀ i : Nat, 0 ≤ f1 i ∧ f1 i ≤ 14)) (h_f2 : (∀ i : Nat, 0 ≤ f2 i ∧ f2 i ≤ 13)) (h_f3 : (∀ i : Nat, (-1) ≤ f3 i ∧ f3 i ≤ 3)) : zw (fn_X12_isFree p1 f1 f2 f3) (fun r => 0 ≤ r ∧ r ≤ 1 ∧ r ≤ (f1 (0 : Int32).toNatClampNeg) + 1 ∧ (¬ r = 1 → 0 ≤ p1 ∧ p1 ≤ 13 ∧ r ≤ 0 ∧ 1 ≤ (f1 (0 : Int32).toNatClampNeg)) ∧ (r = 0 → 0 ≤ p1 ∧ p1 ≤ 13 ∧ r ≤ p1 ∧ 1 ≤ (f1 (0 : Int32).toNatClampNeg) ∧ r < (f1 (0 : Int32).toNatClampNeg)) ∧ (¬ r = 0 → 1 ≤ r)) := by
  unfold fn_X12_isFree
  refine zw_zl32 (fun s_1 => 0 ≤ s_1 ∧ s_1 ≤ 14) (fun s_1 => 14 - s_1) (by (try dsimp only); (repeat' apply And.intro) <;> first | with_reducible assumption | first | lia | grind [zu_at, zu_atL, zvn]) (by (try dsimp only); first | lia | grind [zu_at, zu_atL, zvn]) (fun s_1 back_1 Hback_1 hback_1 => ?_)
  obtain ⟨Hback_1_0, Hback_1_1⟩ := Hback_1
  refine zw_if (fun c1 => ?_) (fun c1 => ?_)
  · refine zw_some ?_
    first | exact True.intro | ((try dsimp only); (repeat' apply And.intro) <;> first | with_reducible assumption | ((try clear hback_1); first | lia | grind [zu_at, zu_atL, zvn]))
  refine zw_zg32 28 (by decide) (by (try dsimp only); ((try clear hback_1); first | lia | grind [zu_at, zu_atL, zvn])) ?_
  refine zw_if (fun c2 => ?_) (fun c2 => ?_)
  · refine zw_if (fun c3 => ?_) (fun c3 => ?_)
    · exact hback_1 _ (by (try dsimp only); (repeat' apply And.intro) <;> first | with_reducible assumption | ((try clear hback_1); first | lia | grind [zu_at, zu_atL, zvn])) (by (try dsimp only); ((try clear hback_1); first | lia | grind [zu_at, zu_atL, zvn])) (by (try dsimp only); ((try clear hback_1); first | lia | grind [zu_at, zu_atL, zvn]))
    refine zw_some ?_
    first | exact True.intro | ((try dsimp only); (repeat' apply And.intro) <;> first | with_reducible assumption | ((try clear hback_1); first | lia | grind [zu_at, zu_atL, zvn]))
  exact hback_1 _ (by (try dsimp only); (repeat' apply And.intro) <;> first | with_reducible assumption | ((try clear hback_1); first | lia | grind [zu_at, zu_atL, zvn])) (by (try dsimp only); ((try clear hback_1); first | lia | grind [zu_at, zu_atL, zvn])) (by (try dsimp only); ((try clear hback_1); first | lia | grind [zu_at, zu_atL, zvn]))
set_option maxHeartbeats 4000000 in
set_option maxRecDepth 100000 in
theorem sf_X12_laysFree (f1 : Nat → Int32) (f2 : Nat → Int32) (f3 : Nat → Int32) (f4 : Nat → Int32) (h_f1 : (∀ i : Nat, 0 ≤ f1 i ∧ f1 i ≤ 14)) (h_f2 : (∀ i : Nat, 0 ≤ f2 i ∧ f2 i ≤ 13)) (h_f3 : (∀ i : Nat, (-1) ≤ f3 i ∧ f3 i ≤ 3)) (h_f4 : (∀ i : Nat, 0 ≤ f4 i ∧ f4 i ≤ 13)) : zw (fn_X12_laysFree f1 f2 f3 f4) (fun r => 0 ≤ r.1 ∧ r.1 ≤ 14 ∧ (∀ i : Nat, 0 ≤ r.2 i ∧ r.2 i ≤ 13)) := by
  unfold fn_X12_laysFree
  refine zw_zl32 (fun s_1 => (∀ i : Nat, 0 ≤ s_1.2.2 i ∧ s_1.2.2 i ≤ 13) ∧ 0 ≤ s_1.1 ∧ s_1.1 ≤ 14 ∧ 0 ≤ s_1.2.1 ∧ s_1.2.1 ≤ 14 ∧ s_1.2.1 ≤ s_1.1) (fun s_1 => 14 - s_1.1) (by (try dsimp only); (repeat' apply And.intro) <;> first | with_reducible assumption | first | lia | grind [zu_at, zu_atL, zvn]) (by (try dsimp only); first | lia | grind [zu_at, zu_atL, zvn]) (fun s_1 back_1 Hback_1 hback_1 => ?_)
  obtain ⟨s_1_0, s_1_1, s_1_2⟩ := s_1
  try dsimp only at Hback_1 hback_1
  obtain ⟨Hback_1_0, Hback_1_1, Hback_1_2, Hback_1_3, Hback_1_4, Hback_1_5⟩ := Hback_1
  refine zw_if (fun c1 => ?_) (fun c1 => ?_)
  · refine zw_some ?_
    first | exact True.intro | ((try dsimp only); (repeat' apply And.intro) <;> first | with_reducible assumption | ((try clear hback_1); first | lia | grind [zu_at, zu_atL, zvn]))
  refine zw_zg32 28 (by decide) (by (try dsimp only); ((try clear hback_1); first | lia | grind [zu_at, zu_atL, zvn])) ?_
  refine zw_if (fun c2 => ?_) (fun c2 => ?_)
  · refine zw_zb0 (sf_X12_isFree s_1_0 f1 f2 f3 (by first | with_reducible assumption | exact ⟨by with_reducible assumption, by with_reducible assumption⟩ | ((try clear hback_1); first | lia | grind [zu_at, zu_atL, zvn])) (by first | with_reducible assumption | exact ⟨by with_reducible assumption, by with_reducible assumption⟩ | ((try clear hback_1); first | lia | grind [zu_at, zu_atL, zvn])) (by first | with_reducible assumption | exact ⟨by with_reducible assumption, by with_reducible assumption⟩ | ((try clear hback_1); first | lia | grind [zu_at, zu_atL, zvn]))) (fun o_5 ho_5 => ?_)
    obtain ⟨ho_5_0, ho_5_1, ho_5_2, ho_5_3, ho_5_4, ho_5_5⟩ := ho_5
    refine zw_if (fun c3 => ?_) (fun c3 => ?_)
    · exact hback_1 _ (by (try dsimp only); (repeat' apply And.intro) <;> first | with_reducible assumption | ((try clear hback_1); first | lia | grind [zu_at, zu_atL, zvn])) (by (try dsimp only); ((try clear hback_1); first | lia | grind [zu_at, zu_atL, zvn])) (by (try dsimp only); ((try clear hback_1); first | lia | grind [zu_at, zu_atL, zvn]))
    refine zw_zg32 14 (by decide) (by (try dsimp only); ((try clear hback_1); first | lia | grind [zu_at, zu_atL, zvn])) ?_
    exact hback_1 _ (by (try dsimp only); (repeat' apply And.intro) <;> first | with_reducible assumption | ((try clear hback_1); first | lia | grind [zu_at, zu_atL, zvn])) (by (try dsimp only); ((try clear hback_1); first | lia | grind [zu_at, zu_atL, zvn])) (by (try dsimp only); ((try clear hback_1); first | lia | grind [zu_at, zu_atL, zvn]))
  exact hback_1 _ (by (try dsimp only); (repeat' apply And.intro) <;> first | with_reducible assumption | ((try clear hback_1); first | lia | grind [zu_at, zu_atL, zvn])) (by (try dsimp only); ((try clear hback_1); first | lia | grind [zu_at, zu_atL, zvn])) (by (try dsimp only); ((try clear hback_1); first | lia | grind [zu_at, zu_atL, zvn]))
set_option maxHeartbeats 4000000 in
set_option maxRecDepth 100000 in
theorem sf_X12_has (p1 : Int32) (v0_64 : Int32) (f1 : Nat → Int32) (f2 : Nat → Int32) (f3 : Nat → Int32) (f4 : Nat → Int32) (f5 : Nat → Int32) (f6 : Nat → Int32) (f7 : Nat → Int32) (f8 : Nat → Int32) (h_f1 : (∀ i : Nat, 0 ≤ f1 i ∧ f1 i ≤ 14)) (h_f2 : (∀ i : Nat, 0 ≤ f2 i ∧ f2 i ≤ 13)) (h_f3 : (∀ i : Nat, (-1) ≤ f3 i ∧ f3 i ≤ 3)) (h_f4 : (∀ i : Nat, 0 ≤ f4 i ∧ f4 i ≤ 13)) (h_f5 : (∀ i : Nat, 0 ≤ f5 i ∧ f5 i ≤ 4)) : zw (fn_X12_has p1 v0_64 f1 f2 f3 f4 f5 f6 f7 f8) (fun r => 0 ≤ r.2.1 ∧ r.2.1 ≤ 14 ∧ (∀ i : Nat, 0 ≤ r.2.2 i ∧ r.2.2 i ≤ 13)) := by
  unfold fn_X12_has
  refine zw_zb0 (sf_X12_laysFree f1 f2 f3 f4 (by first | with_reducible assumption | exact ⟨by with_reducible assumption, by with_reducible assumption⟩ | first | lia | grind [zu_at, zu_atL, zvn]) (by first | with_reducible assumption | exact ⟨by with_reducible assumption, by with_reducible assumption⟩ | first | lia | grind [zu_at, zu_atL, zvn]) (by first | with_reducible assumption | exact ⟨by with_reducible assumption, by with_reducible assumption⟩ | first | lia | grind [zu_at, zu_atL, zvn]) (by first | with_reducible assumption | exact ⟨by with_reducible assumption, by with_reducible assumption⟩ | first | lia | grind [zu_at, zu_atL, zvn])) (fun o_1 ho_1 => ?_)
  obtain ⟨o_1_0, o_1_1⟩ := o_1
  try dsimp only at ho_1
  obtain ⟨ho_1_0, ho_1_1, ho_1_2⟩ := ho_1
  refine zw_if (fun c1 => ?_) (fun c1 => ?_)
  · refine zw_some ?_
    first | exact True.intro | ((try dsimp only); (repeat' apply And.intro) <;> first | with_reducible assumption | first | lia | grind [zu_at, zu_atL, zvn])
  refine zw_if (fun c2 => ?_) (fun c2 => ?_)
  · refine zw_some ?_
    first | exact True.intro | ((try dsimp only); (repeat' apply And.intro) <;> first | with_reducible assumption | first | lia | grind [zu_at, zu_atL, zvn])
  refine zw_if (fun c3 => ?_) (fun c3 => ?_)
  · refine zw_zb0 (sf_X12_inputs f1 f6 (by first | with_reducible assumption | exact ⟨by with_reducible assumption, by with_reducible assumption⟩ | first | lia | grind [zu_at, zu_atL, zvn])) (fun o_8 ho_8 => ?_)
    obtain ⟨ho_8_0, ho_8_1⟩ := ho_8
    refine zw_some ?_
    first | exact True.intro | ((try dsimp only); (repeat' apply And.intro) <;> first | with_reducible assumption | first | lia | grind [zu_at, zu_atL, zvn])
  refine zw_if (fun c4 => ?_) (fun c4 => ?_)
  · refine zw_zb0 (sf_X12_answers f1 f7 (by first | with_reducible assumption | exact ⟨by with_reducible assumption, by with_reducible assumption⟩ | first | lia | grind [zu_at, zu_atL, zvn])) (fun o_13 ho_13 => ?_)
    obtain ⟨ho_13_0, ho_13_1⟩ := ho_13
    refine zw_some ?_
    first | exact True.intro | ((try dsimp only); (repeat' apply And.intro) <;> first | with_reducible assumption | first | lia | grind [zu_at, zu_atL, zvn])
  refine zw_if (fun c5 => ?_) (fun c5 => ?_)
  · refine zw_zb0 (sf_X12_groups f1 f2 (by first | with_reducible assumption | exact ⟨by with_reducible assumption, by with_reducible assumption⟩ | first | lia | grind [zu_at, zu_atL, zvn]) (by first | with_reducible assumption | exact ⟨by with_reducible assumption, by with_reducible assumption⟩ | first | lia | grind [zu_at, zu_atL, zvn])) (fun o_18 ho_18 => ?_)
    obtain ⟨ho_18_0, ho_18_1⟩ := ho_18
    refine zw_some ?_
    first | exact True.intro | ((try dsimp only); (repeat' apply And.intro) <;> first | with_reducible assumption | first | lia | grind [zu_at, zu_atL, zvn])
  refine zw_if (fun c6 => ?_) (fun c6 => ?_)
  · refine zw_some ?_
    first | exact True.intro | ((try dsimp only); (repeat' apply And.intro) <;> first | with_reducible assumption | first | lia | grind [zu_at, zu_atL, zvn])
  refine zw_if (fun c7 => ?_) (fun c7 => ?_)
  · refine zw_if (fun c8 => ?_) (fun c8 => ?_)
    · refine zw_some ?_
      first | exact True.intro | ((try dsimp only); (repeat' apply And.intro) <;> first | with_reducible assumption | first | lia | grind [zu_at, zu_atL, zvn])
    refine zw_some ?_
    first | exact True.intro | ((try dsimp only); (repeat' apply And.intro) <;> first | with_reducible assumption | first | lia | grind [zu_at, zu_atL, zvn])
  refine zw_if (fun c9 => ?_) (fun c9 => ?_)
  · refine zw_some ?_
    first | exact True.intro | ((try dsimp only); (repeat' apply And.intro) <;> first | with_reducible assumption | first | lia | grind [zu_at, zu_atL, zvn])
  refine zw_some ?_
  first | exact True.intro | ((try dsimp only); (repeat' apply And.intro) <;> first | with_reducible assumption | first | lia | grind [zu_at, zu_atL, zvn])
set_option maxHeartbeats 4000000 in
set_option maxRecDepth 100000 in
theorem sf_X12_letter (p1 : Int32) (p2 : Int32) (p3 : Int32) (f1 : Nat → Int32) (f2 : Nat → Int32) (f3 : Nat → Int32) (f4 : Nat → Int32) (h_p2 : 0 ≤ p2 ∧ p2 ≤ 1) (h_f1 : (∀ i : Nat, 0 ≤ f1 i ∧ f1 i ≤ 14)) (h_f2 : (∀ i : Nat, 0 ≤ f2 i ∧ f2 i ≤ 4)) : zw (fn_X12_letter p1 p2 p3 f1 f2 f3 f4) (fun r => (-1) ≤ r ∧ r ≤ 31) := by
  unfold fn_X12_letter
  refine zw_zj (fun s_1 => (s_1 = 0 ∨ p2 = 0 ∧ 0 ≤ p1 ∧ p1 < f1 (0 : Int32).toNatClampNeg ∨ ¬ p2 = 0 ∧ 0 ≤ p1 ∧ p1 < f2 (0 : Int32).toNatClampNeg) ∧ 0 ≤ s_1 ∧ s_1 ≤ 1) (fun s_1 Hj_1 => ?_) (fun j_1 hj_1 => ?_)
  · obtain ⟨Hj_1_0, Hj_1_1, Hj_1_2⟩ := Hj_1
    refine zw_if (fun c1 => ?_) (fun c1 => ?_)
    · refine zw_some ?_
      first | exact True.intro | ((try dsimp only); (repeat' apply And.intro) <;> first | with_reducible assumption | first | lia | grind [zu_at, zu_atL, zvn, zand31])
    refine zw_zb0 (sf_X12_isIn p3.toInt64 (0 : Int64) (5 : Int64)) (fun o_3 ho_3 => ?_)
    obtain ⟨ho_3_0, ho_3_1, ho_3_2, ho_3_3, ho_3_4⟩ := ho_3
    refine zw_if (fun c2 => ?_) (fun c2 => ?_)
    · refine zw_some ?_
      first | exact True.intro | ((try dsimp only); (repeat' apply And.intro) <;> first | with_reducible assumption | first | lia | grind [zu_at, zu_atL, zvn, zand31])
    refine zw_if (fun c3 => ?_) (fun c3 => ?_)
    · refine zw_zg32 28 (by decide) (by (try dsimp only); first | lia | grind [zu_at, zu_atL, zvn, zand31]) ?_
      refine zw_some ?_
      first | exact True.intro | ((try dsimp only); (repeat' apply And.intro) <;> first | with_reducible assumption | first | lia | grind [zu_at, zu_atL, zvn, zand31])
    refine zw_zg32 8 (by decide) (by (try dsimp only); first | lia | grind [zu_at, zu_atL, zvn, zand31]) ?_
    refine zw_some ?_
    first | exact True.intro | ((try dsimp only); (repeat' apply And.intro) <;> first | with_reducible assumption | first | lia | grind [zu_at, zu_atL, zvn, zand31])
  refine zw_if (fun c4 => ?_) (fun c4 => ?_)
  · refine zw_zb0 (sf_X12_isNumber p1 f1 (by first | with_reducible assumption | exact ⟨by with_reducible assumption, by with_reducible assumption⟩ | first | lia | grind [zu_at, zu_atL, zvn, zand31])) (fun o_12 ho_12 => ?_)
    obtain ⟨ho_12_0, ho_12_1, ho_12_2, ho_12_3, ho_12_4, ho_12_5⟩ := ho_12
    exact hj_1 _ (by first | exact True.intro | ((try dsimp only); (repeat' apply And.intro) <;> first | with_reducible assumption | first | lia | grind [zu_at, zu_atL, zvn, zand31]))
  refine zw_zb0 (sf_X12_isFormat p1 f2 (by first | with_reducible assumption | exact ⟨by with_reducible assumption, by with_reducible assumption⟩ | first | lia | grind [zu_at, zu_atL, zvn, zand31])) (fun o_16 ho_16 => ?_)
  obtain ⟨ho_16_0, ho_16_1, ho_16_2, ho_16_3, ho_16_4, ho_16_5, ho_16_6⟩ := ho_16
  exact hj_1 _ (by first | exact True.intro | ((try dsimp only); (repeat' apply And.intro) <;> first | with_reducible assumption | first | lia | grind [zu_at, zu_atL, zvn, zand31]))
set_option maxHeartbeats 4000000 in
set_option maxRecDepth 100000 in
theorem sf_X12_format (p1 : Int32) (p2 : Int32) (f1 : Nat → Int32) (f2 : Nat → Int32) (f3 : Nat → Int32) (f4 : Nat → Int32) (h_f1 : (∀ i : Nat, 0 ≤ f1 i ∧ f1 i ≤ 4)) : zw (fn_X12_format p1 p2 f1 f2 f3 f4) (fun r => True) := by
  unfold fn_X12_format
  refine zw_zb0 (sf_X12_isFormat p1 f1 (by first | with_reducible assumption | exact ⟨by with_reducible assumption, by with_reducible assumption⟩ | first | lia | grind [zu_at, zu_atL, zvn])) (fun o_1 ho_1 => ?_)
  obtain ⟨ho_1_0, ho_1_1, ho_1_2, ho_1_3, ho_1_4, ho_1_5, ho_1_6⟩ := ho_1
  refine zw_if (fun c1 => ?_) (fun c1 => ?_)
  · refine zw_some ?_
    first | exact True.intro | ((try dsimp only); (repeat' apply And.intro) <;> first | with_reducible assumption | first | lia | grind [zu_at, zu_atL, zvn])
  refine zw_if (fun c2 => ?_) (fun c2 => ?_)
  · refine zw_zg32 8 (by decide) (by (try dsimp only); first | lia | grind [zu_at, zu_atL, zvn]) ?_
    refine zw_some ?_
    first | exact True.intro | ((try dsimp only); (repeat' apply And.intro) <;> first | with_reducible assumption | first | lia | grind [zu_at, zu_atL, zvn])
  refine zw_if (fun c3 => ?_) (fun c3 => ?_)
  · refine zw_zg32 8 (by decide) (by (try dsimp only); first | lia | grind [zu_at, zu_atL, zvn]) ?_
    refine zw_some ?_
    first | exact True.intro | ((try dsimp only); (repeat' apply And.intro) <;> first | with_reducible assumption | first | lia | grind [zu_at, zu_atL, zvn])
  refine zw_if (fun c4 => ?_) (fun c4 => ?_)
  · refine zw_zg32 8 (by decide) (by (try dsimp only); first | lia | grind [zu_at, zu_atL, zvn]) ?_
    refine zw_some ?_
    first | exact True.intro | ((try dsimp only); (repeat' apply And.intro) <;> first | with_reducible assumption | first | lia | grind [zu_at, zu_atL, zvn])
  refine zw_some ?_
  first | exact True.intro | ((try dsimp only); (repeat' apply And.intro) <;> first | with_reducible assumption | first | lia | grind [zu_at, zu_atL, zvn])
set_option maxHeartbeats 4000000 in
set_option maxRecDepth 100000 in
theorem sf_X12_groupPlace (p1 : Int32) (f1 : Nat → Int32) (h_p1 : 0 ≤ p1 ∧ p1 ≤ 13) (h_f1 : (∀ i : Nat, 0 ≤ f1 i ∧ f1 i ≤ 13)) : zw (fn_X12_groupPlace p1 f1) (fun r => 0 ≤ r ∧ r ≤ 13) := by
  unfold fn_X12_groupPlace
  refine zw_zl32 (fun s_1 => 0 ≤ s_1.1 ∧ 0 ≤ s_1.2 ∧ s_1.1 ≤ 13 ∧ s_1.2 ≤ 13 ∧ s_1.1 ≤ s_1.2) (fun s_1 => 13 - s_1.2) (by (try dsimp only); (repeat' apply And.intro) <;> first | with_reducible assumption | first | lia | grind [zu_at, zu_atL, zvn]) (by (try dsimp only); first | lia | grind [zu_at, zu_atL, zvn]) (fun s_1 back_1 Hback_1 hback_1 => ?_)
  obtain ⟨s_1_0, s_1_1⟩ := s_1
  try dsimp only at Hback_1 hback_1
  obtain ⟨Hback_1_0, Hback_1_1, Hback_1_2, Hback_1_3, Hback_1_4⟩ := Hback_1
  refine zw_zg32 28 (by decide) (by (try dsimp only); ((try clear hback_1); first | lia | grind [zu_at, zu_atL, zvn])) ?_
  refine zw_if (fun c1 => ?_) (fun c1 => ?_)
  · refine zw_some ?_
    first | exact True.intro | ((try dsimp only); (repeat' apply And.intro) <;> first | with_reducible assumption | ((try clear hback_1); first | lia | grind [zu_at, zu_atL, zvn]))
  refine zw_zg32 28 (by decide) (by (try dsimp only); ((try clear hback_1); first | lia | grind [zu_at, zu_atL, zvn])) ?_
  refine zw_if (fun c2 => ?_) (fun c2 => ?_)
  · exact hback_1 _ (by (try dsimp only); (repeat' apply And.intro) <;> first | with_reducible assumption | ((try clear hback_1); first | lia | grind [zu_at, zu_atL, zvn])) (by (try dsimp only); ((try clear hback_1); first | lia | grind [zu_at, zu_atL, zvn])) (by (try dsimp only); ((try clear hback_1); first | lia | grind [zu_at, zu_atL, zvn]))
  exact hback_1 _ (by (try dsimp only); (repeat' apply And.intro) <;> first | with_reducible assumption | ((try clear hback_1); first | lia | grind [zu_at, zu_atL, zvn])) (by (try dsimp only); ((try clear hback_1); first | lia | grind [zu_at, zu_atL, zvn])) (by (try dsimp only); ((try clear hback_1); first | lia | grind [zu_at, zu_atL, zvn]))
set_option maxHeartbeats 4000000 in
set_option maxRecDepth 100000 in
theorem sf_X12_number_ (p1 : Int32) (p2 : Int32) (f1 : Nat → Int32) (f2 : Nat → Int32) (f3 : Nat → Int32) (f4 : Nat → Int32) (f5 : Nat → Int32) (f6 : Nat → Int32) (f7 : Nat → Int32) (h_f1 : (∀ i : Nat, 0 ≤ f1 i ∧ f1 i ≤ 14)) (h_f3 : (∀ i : Nat, (-1) ≤ f3 i ∧ f3 i ≤ 13)) (h_f4 : (∀ i : Nat, (-1) ≤ f4 i ∧ f4 i ≤ 13)) (h_f5 : (∀ i : Nat, 0 ≤ f5 i ∧ f5 i ≤ 13)) (h_f6 : (∀ i : Nat, (-1) ≤ f6 i ∧ f6 i ≤ 3)) : zw (fn_X12_number_ p1 p2 f1 f2 f3 f4 f5 f6 f7) (fun r => True) := by
  unfold fn_X12_number_
  refine zw_zb0 (sf_X12_isNumber p1 f1 (by first | with_reducible assumption | exact ⟨by with_reducible assumption, by with_reducible assumption⟩ | first | lia | grind [zu_at, zu_atL, zvn])) (fun o_1 ho_1 => ?_)
  obtain ⟨ho_1_0, ho_1_1, ho_1_2, ho_1_3, ho_1_4, ho_1_5⟩ := ho_1
  refine zw_if (fun c1 => ?_) (fun c1 => ?_)
  · refine zw_some ?_
    first | exact True.intro | ((try dsimp only); (repeat' apply And.intro) <;> first | with_reducible assumption | first | lia | grind [zu_at, zu_atL, zvn])
  refine zw_if (fun c2 => ?_) (fun c2 => ?_)
  · refine zw_zg32 28 (by decide) (by (try dsimp only); first | lia | grind [zu_at, zu_atL, zvn]) ?_
    refine zw_some ?_
    first | exact True.intro | ((try dsimp only); (repeat' apply And.intro) <;> first | with_reducible assumption | first | lia | grind [zu_at, zu_atL, zvn])
  refine zw_if (fun c3 => ?_) (fun c3 => ?_)
  · refine zw_zg32 28 (by decide) (by (try dsimp only); first | lia | grind [zu_at, zu_atL, zvn]) ?_
    refine zw_some ?_
    first | exact True.intro | ((try dsimp only); (repeat' apply And.intro) <;> first | with_reducible assumption | first | lia | grind [zu_at, zu_atL, zvn])
  refine zw_if (fun c4 => ?_) (fun c4 => ?_)
  · refine zw_zg32 28 (by decide) (by (try dsimp only); first | lia | grind [zu_at, zu_atL, zvn]) ?_
    refine zw_some ?_
    first | exact True.intro | ((try dsimp only); (repeat' apply And.intro) <;> first | with_reducible assumption | first | lia | grind [zu_at, zu_atL, zvn])
  refine zw_if (fun c5 => ?_) (fun c5 => ?_)
  · refine zw_zb0 (sf_X12_groupPlace p1 f5 (by first | with_reducible assumption | exact ⟨by with_reducible assumption, by with_reducible assumption⟩ | first | lia | grind [zu_at, zu_atL, zvn]) (by first | with_reducible assumption | exact ⟨by with_reducible assumption, by with_reducible assumption⟩ | first | lia | grind [zu_at, zu_atL, zvn])) (fun o_13 ho_13 => ?_)
    obtain ⟨ho_13_0, ho_13_1⟩ := ho_13
    refine zw_some ?_
    first | exact True.intro | ((try dsimp only); (repeat' apply And.intro) <;> first | with_reducible assumption | first | lia | grind [zu_at, zu_atL, zvn])
  refine zw_if (fun c6 => ?_) (fun c6 => ?_)
  · refine zw_zg32 28 (by decide) (by (try dsimp only); first | lia | grind [zu_at, zu_atL, zvn]) ?_
    refine zw_some ?_
    first | exact True.intro | ((try dsimp only); (repeat' apply And.intro) <;> first | with_reducible assumption | first | lia | grind [zu_at, zu_atL, zvn])
  refine zw_if (fun c7 => ?_) (fun c7 => ?_)
  · refine zw_zg32 28 (by decide) (by (try dsimp only); first | lia | grind [zu_at, zu_atL, zvn]) ?_
    refine zw_some ?_
    first | exact True.intro | ((try dsimp only); (repeat' apply And.intro) <;> first | with_reducible assumption | first | lia | grind [zu_at, zu_atL, zvn])
  refine zw_some ?_
  first | exact True.intro | ((try dsimp only); (repeat' apply And.intro) <;> first | with_reducible assumption | first | lia | grind [zu_at, zu_atL, zvn])
set_option maxHeartbeats 4000000 in
set_option maxRecDepth 100000 in
theorem sf_X12_told (p1 : Int32) (p2 : Int32) (f1 : Nat → Int32) (f2 : Nat → Int32) (f3 : Nat → Int32) (f4 : Nat → Int32) (f5 : Nat → Int64) (f6 : Nat → Int64) (h_f1 : (∀ i : Nat, 0 ≤ f1 i ∧ f1 i ≤ 14)) (h_f3 : (∀ i : Nat, (-1) ≤ f3 i ∧ f3 i ≤ 13)) (h_f4 : (∀ i : Nat, (-1) ≤ f4 i ∧ f4 i ≤ 13)) : zw (fn_X12_told p1 p2 f1 f2 f3 f4 f5 f6) (fun r => True) := by
  unfold fn_X12_told
  refine zw_zb0 (sf_X12_isNumber p1 f1 (by first | with_reducible assumption | exact ⟨by with_reducible assumption, by with_reducible assumption⟩ | first | lia | grind [zu_at, zu_atL, zvn])) (fun o_1 ho_1 => ?_)
  obtain ⟨ho_1_0, ho_1_1, ho_1_2, ho_1_3, ho_1_4, ho_1_5⟩ := ho_1
  refine zw_if (fun c1 => ?_) (fun c1 => ?_)
  · refine zw_some ?_
    first | exact True.intro | ((try dsimp only); (repeat' apply And.intro) <;> first | with_reducible assumption | first | lia | grind [zu_at, zu_atL, zvn])
  refine zw_zb0 (sf_X12_isIn p2.toInt64 (0 : Int64) (1 : Int64)) (fun o_6 ho_6 => ?_)
  obtain ⟨ho_6_0, ho_6_1, ho_6_2, ho_6_3, ho_6_4⟩ := ho_6
  refine zw_if (fun c2 => ?_) (fun c2 => ?_)
  · refine zw_some ?_
    first | exact True.intro | ((try dsimp only); (repeat' apply And.intro) <;> first | with_reducible assumption | first | lia | grind [zu_at, zu_atL, zvn])
  refine zw_zg32 28 (by decide) (by (try dsimp only); first | lia | grind [zu_at, zu_atL, zvn]) ?_
  refine zw_zj (fun _ => True) (fun s_12 Hj_12 => ?_) (fun j_12 hj_12 => ?_)
  · refine zw_if (fun c3 => ?_) (fun c3 => ?_)
    · refine zw_zg32 28 (by decide) (by (try dsimp only); ((try clear hj_12); first | lia | grind [zu_at, zu_atL, zvn])) ?_
      refine zw_some ?_
      first | exact True.intro | ((try dsimp only); (repeat' apply And.intro) <;> first | with_reducible assumption | ((try clear hj_12); first | lia | grind [zu_at, zu_atL, zvn]))
    refine zw_zg32 28 (by decide) (by (try dsimp only); ((try clear hj_12); first | lia | grind [zu_at, zu_atL, zvn])) ?_
    refine zw_some ?_
    first | exact True.intro | ((try dsimp only); (repeat' apply And.intro) <;> first | with_reducible assumption | ((try clear hj_12); first | lia | grind [zu_at, zu_atL, zvn]))
  refine zw_if (fun c4 => ?_) (fun c4 => ?_)
  · exact hj_12 _ (by first | exact True.intro | ((try dsimp only); (repeat' apply And.intro) <;> first | with_reducible assumption | ((try clear hj_12); first | lia | grind [zu_at, zu_atL, zvn])))
  refine zw_zj (fun s_17 => (-1) ≤ s_17 ∧ s_17 ≤ 13) (fun s_17 Hj_17 => ?_) (fun j_17 hj_17 => ?_)
  · obtain ⟨Hj_17_0, Hj_17_1⟩ := Hj_17
    refine zw_if (fun c5 => ?_) (fun c5 => ?_)
    · exact hj_12 _ (by first | exact True.intro | ((try dsimp only); (repeat' apply And.intro) <;> first | with_reducible assumption | ((try clear hj_12); (try clear hj_17); first | lia | grind [zu_at, zu_atL, zvn])))
    refine zw_some ?_
    first | exact True.intro | ((try dsimp only); (repeat' apply And.intro) <;> first | with_reducible assumption | ((try clear hj_12); (try clear hj_17); first | lia | grind [zu_at, zu_atL, zvn]))
  refine zw_if (fun c6 => ?_) (fun c6 => ?_)
  · exact hj_17 _ (by first | exact True.intro | ((try dsimp only); (repeat' apply And.intro) <;> first | with_reducible assumption | ((try clear hj_12); (try clear hj_17); first | lia | grind [zu_at, zu_atL, zvn])))
  exact hj_17 _ (by first | exact True.intro | ((try dsimp only); (repeat' apply And.intro) <;> first | with_reducible assumption | ((try clear hj_12); (try clear hj_17); first | lia | grind [zu_at, zu_atL, zvn])))
set_option maxHeartbeats 4000000 in
set_option maxRecDepth 100000 in
theorem sf_X12_rounded (j0 : Int64) (j1 : Int64) (h_j1 : 1 ≤ j1 ∧ j1 ≤ 2147483647) : zw (fn_X12_rounded j0 j1) (fun r => True) := by
  unfold fn_X12_rounded
  refine zw_zb0 (sf_X12_floor (((2 : Int64) * j0) + j1) ((2 : Int64) * j1) (by first | with_reducible assumption | exact ⟨by with_reducible assumption, by with_reducible assumption⟩ | first | lia | grind [zu_at, zu_atL, zvn])) (fun o_1 ho_1 => ?_)
  refine zw_some ?_
  first | exact True.intro | ((try dsimp only); (repeat' apply And.intro) <;> first | with_reducible assumption | first | lia | grind [zu_at, zu_atL, zvn])
set_option maxHeartbeats 4000000 in
set_option maxRecDepth 100000 in
theorem sf_X12_roundedProduct (j0 : Int64) (j1 : Int64) (j2 : Int64) (h_j2 : 1 ≤ j2 ∧ j2 ≤ 2147483647) : zw (fn_X12_roundedProduct j0 j1 j2) (fun r => True) := by
  unfold fn_X12_roundedProduct
  refine zw_zb0 (sf_X12_floor ((((2 : Int64) * j0) * j1) + ((1000 : Int64) * j2)) ((2000 : Int64) * j2) (by first | with_reducible assumption | exact ⟨by with_reducible assumption, by with_reducible assumption⟩ | first | lia | grind [zu_at, zu_atL, zvn])) (fun o_1 ho_1 => ?_)
  refine zw_some ?_
  first | exact True.intro | ((try dsimp only); (repeat' apply And.intro) <;> first | with_reducible assumption | first | lia | grind [zu_at, zu_atL, zvn])
set_option maxHeartbeats 4000000 in
set_option maxRecDepth 100000 in
theorem sf_X12_two (p0 : Int32) (j1 : Int64) (j2 : Int64) (j3 : Int64) (h_j3 : 1 ≤ j3 ∧ j3 ≤ 2147483647) : zw (fn_X12_two p0 j1 j2 j3) (fun r => True) := by
  unfold fn_X12_two
  refine zw_if (fun c1 => ?_) (fun c1 => ?_)
  · refine zw_some ?_
    first | exact True.intro | ((try dsimp only); (repeat' apply And.intro) <;> first | with_reducible assumption | first | lia | grind [zu_at, zu_atL, zvn])
  refine zw_if (fun c2 => ?_) (fun c2 => ?_)
  · refine zw_some ?_
    first | exact True.intro | ((try dsimp only); (repeat' apply And.intro) <;> first | with_reducible assumption | first | lia | grind [zu_at, zu_atL, zvn])
  refine zw_if (fun c3 => ?_) (fun c3 => ?_)
  · refine zw_zb0 (sf_X12_roundedProduct j1 j2 j3 (by first | with_reducible assumption | exact ⟨by with_reducible assumption, by with_reducible assumption⟩ | first | lia | grind [zu_at, zu_atL, zvn])) (fun o_4 ho_4 => ?_)
    refine zw_some ?_
    first | exact True.intro | ((try dsimp only); (repeat' apply And.intro) <;> first | with_reducible assumption | first | lia | grind [zu_at, zu_atL, zvn])
  refine zw_if (fun c4 => ?_) (fun c4 => ?_)
  · refine zw_zb0 (sf_X12_lesser j1 j2) (fun o_9 ho_9 => ?_)
    refine zw_some ?_
    first | exact True.intro | ((try dsimp only); (repeat' apply And.intro) <;> first | with_reducible assumption | first | lia | grind [zu_at, zu_atL, zvn])
  refine zw_zb0 (sf_X12_greater j1 j2) (fun o_13 ho_13 => ?_)
  refine zw_some ?_
  first | exact True.intro | ((try dsimp only); (repeat' apply And.intro) <;> first | with_reducible assumption | first | lia | grind [zu_at, zu_atL, zvn])
set_option maxHeartbeats 4000000 in
set_option maxRecDepth 100000 in
theorem sf_X12_lowOf (p1 : Int32) (p2 : Int32) (f1 : Nat → Int32) (f2 : Nat → Int32) (f3 : Nat → Int64) (f4 : Nat → Int64) (f5 : Nat → Int64) (h_p1 : 0 ≤ p1 ∧ p1 ≤ 13) (h_p2 : 0 ≤ p2 ∧ p2 ≤ 1) (h_f1 : (∀ i : Nat, (-1) ≤ f1 i ∧ f1 i ≤ 13)) (h_f2 : (∀ i : Nat, (-1) ≤ f2 i ∧ f2 i ≤ 13)) : zw (fn_X12_lowOf p1 p2 f1 f2 f3 f4 f5) (fun r => True) := by
  unfold fn_X12_lowOf
  refine zw_zj (fun s_1 => (-1) ≤ s_1 ∧ s_1 ≤ 13) (fun s_1 Hj_1 => ?_) (fun j_1 hj_1 => ?_)
  · obtain ⟨Hj_1_0, Hj_1_1⟩ := Hj_1
    refine zw_if (fun c1 => ?_) (fun c1 => ?_)
    · refine zw_if (fun c2 => ?_) (fun c2 => ?_)
      · refine zw_zg32 28 (by decide) (by (try dsimp only); ((try clear hj_1); first | lia | grind [zu_at, zu_atL, zvn])) ?_
        refine zw_some ?_
        first | exact True.intro | ((try dsimp only); (repeat' apply And.intro) <;> first | with_reducible assumption | ((try clear hj_1); first | lia | grind [zu_at, zu_atL, zvn]))
      refine zw_zg32 28 (by decide) (by (try dsimp only); ((try clear hj_1); first | lia | grind [zu_at, zu_atL, zvn])) ?_
      refine zw_some ?_
      first | exact True.intro | ((try dsimp only); (repeat' apply And.intro) <;> first | with_reducible assumption | ((try clear hj_1); first | lia | grind [zu_at, zu_atL, zvn]))
    refine zw_zg32 14 (by decide) (by (try dsimp only); ((try clear hj_1); first | lia | grind [zu_at, zu_atL, zvn])) ?_
    refine zw_some ?_
    first | exact True.intro | ((try dsimp only); (repeat' apply And.intro) <;> first | with_reducible assumption | ((try clear hj_1); first | lia | grind [zu_at, zu_atL, zvn]))
  refine zw_if (fun c3 => ?_) (fun c3 => ?_)
  · refine zw_zg32 28 (by decide) (by (try dsimp only); ((try clear hj_1); first | lia | grind [zu_at, zu_atL, zvn])) ?_
    exact hj_1 _ (by first | exact True.intro | ((try dsimp only); (repeat' apply And.intro) <;> first | with_reducible assumption | ((try clear hj_1); first | lia | grind [zu_at, zu_atL, zvn])))
  refine zw_zg32 28 (by decide) (by (try dsimp only); ((try clear hj_1); first | lia | grind [zu_at, zu_atL, zvn])) ?_
  exact hj_1 _ (by first | exact True.intro | ((try dsimp only); (repeat' apply And.intro) <;> first | with_reducible assumption | ((try clear hj_1); first | lia | grind [zu_at, zu_atL, zvn])))
set_option maxHeartbeats 4000000 in
set_option maxRecDepth 100000 in
theorem sf_X12_highOf (p1 : Int32) (p2 : Int32) (f1 : Nat → Int32) (f2 : Nat → Int32) (f3 : Nat → Int64) (f4 : Nat → Int64) (f5 : Nat → Int64) (h_p1 : 0 ≤ p1 ∧ p1 ≤ 13) (h_p2 : 0 ≤ p2 ∧ p2 ≤ 1) (h_f1 : (∀ i : Nat, (-1) ≤ f1 i ∧ f1 i ≤ 13)) (h_f2 : (∀ i : Nat, (-1) ≤ f2 i ∧ f2 i ≤ 13)) : zw (fn_X12_highOf p1 p2 f1 f2 f3 f4 f5) (fun r => True) := by
  unfold fn_X12_highOf
  refine zw_zj (fun s_1 => (-1) ≤ s_1 ∧ s_1 ≤ 13) (fun s_1 Hj_1 => ?_) (fun j_1 hj_1 => ?_)
  · obtain ⟨Hj_1_0, Hj_1_1⟩ := Hj_1
    refine zw_if (fun c1 => ?_) (fun c1 => ?_)
    · refine zw_if (fun c2 => ?_) (fun c2 => ?_)
      · refine zw_zg32 28 (by decide) (by (try dsimp only); ((try clear hj_1); first | lia | grind [zu_at, zu_atL, zvn])) ?_
        refine zw_some ?_
        first | exact True.intro | ((try dsimp only); (repeat' apply And.intro) <;> first | with_reducible assumption | ((try clear hj_1); first | lia | grind [zu_at, zu_atL, zvn]))
      refine zw_zg32 28 (by decide) (by (try dsimp only); ((try clear hj_1); first | lia | grind [zu_at, zu_atL, zvn])) ?_
      refine zw_some ?_
      first | exact True.intro | ((try dsimp only); (repeat' apply And.intro) <;> first | with_reducible assumption | ((try clear hj_1); first | lia | grind [zu_at, zu_atL, zvn]))
    refine zw_zg32 14 (by decide) (by (try dsimp only); ((try clear hj_1); first | lia | grind [zu_at, zu_atL, zvn])) ?_
    refine zw_some ?_
    first | exact True.intro | ((try dsimp only); (repeat' apply And.intro) <;> first | with_reducible assumption | ((try clear hj_1); first | lia | grind [zu_at, zu_atL, zvn]))
  refine zw_if (fun c3 => ?_) (fun c3 => ?_)
  · refine zw_zg32 28 (by decide) (by (try dsimp only); ((try clear hj_1); first | lia | grind [zu_at, zu_atL, zvn])) ?_
    exact hj_1 _ (by first | exact True.intro | ((try dsimp only); (repeat' apply And.intro) <;> first | with_reducible assumption | ((try clear hj_1); first | lia | grind [zu_at, zu_atL, zvn])))
  refine zw_zg32 28 (by decide) (by (try dsimp only); ((try clear hj_1); first | lia | grind [zu_at, zu_atL, zvn])) ?_
  exact hj_1 _ (by first | exact True.intro | ((try dsimp only); (repeat' apply And.intro) <;> first | with_reducible assumption | ((try clear hj_1); first | lia | grind [zu_at, zu_atL, zvn])))
set_option maxHeartbeats 4000000 in
set_option maxRecDepth 100000 in
theorem sf_X12_laysRange (p1 : Int32) (v0_33 : Int32) (w0_34 : Int64) (f1 : Nat → Int32) (f2 : Nat → Int32) (f3 : Nat → Int32) (f4 : Nat → Int64) (f5 : Nat → Int64) (f6 : Nat → Int64) (f7 : Nat → Int64) (h_p1 : 0 ≤ p1 ∧ p1 ≤ 13) (h_f2 : (∀ i : Nat, (-1) ≤ f2 i ∧ f2 i ≤ 13)) (h_f3 : (∀ i : Nat, (-1) ≤ f3 i ∧ f3 i ≤ 13)) : zw (fn_X12_laysRange p1 v0_33 w0_34 f1 f2 f3 f4 f5 f6 f7) (fun r => True) := by
  unfold fn_X12_laysRange
  refine zw_zg32 28 (by decide) (by (try dsimp only); first | lia | grind [zu_at, zu_atL, zvn]) ?_
  refine zw_if (fun c1 => ?_) (fun c1 => ?_)
  · refine zw_zj (fun s_72 => True) (fun s_72 Hj_72 => ?_) (fun j_72 hj_72 => ?_)
    · refine zw_zg32 28 (by decide) (by (try dsimp only); ((try clear hj_72); first | lia | grind [zu_at, zu_atL, zvn])) ?_
      refine zw_zg32 14 (by decide) (by (try dsimp only); ((try clear hj_72); first | lia | grind [zu_at, zu_atL, zvn])) ?_
      refine zw_some ?_
      first | exact True.intro | ((try dsimp only); (repeat' apply And.intro) <;> first | with_reducible assumption | ((try clear hj_72); first | lia | grind [zu_at, zu_atL, zvn]))
    refine zw_if (fun c2 => ?_) (fun c2 => ?_)
    · exact hj_72 _ (by first | exact True.intro | ((try dsimp only); (repeat' apply And.intro) <;> first | with_reducible assumption | ((try clear hj_72); first | lia | grind [zu_at, zu_atL, zvn])))
    exact hj_72 _ (by first | exact True.intro | ((try dsimp only); (repeat' apply And.intro) <;> first | with_reducible assumption | ((try clear hj_72); first | lia | grind [zu_at, zu_atL, zvn])))
  refine zw_zb0 (sf_X12_lowOf p1 0 f2 f3 f4 f5 f6 (by first | with_reducible assumption | exact ⟨by with_reducible assumption, by with_reducible assumption⟩ | ((try clear hj_72); first | lia | grind [zu_at, zu_atL, zvn])) (by first | with_reducible assumption | exact ⟨by with_reducible assumption, by with_reducible assumption⟩ | ((try clear hj_72); first | lia | grind [zu_at, zu_atL, zvn])) (by first | with_reducible assumption | exact ⟨by with_reducible assumption, by with_reducible assumption⟩ | ((try clear hj_72); first | lia | grind [zu_at, zu_atL, zvn])) (by first | with_reducible assumption | exact ⟨by with_reducible assumption, by with_reducible assumption⟩ | ((try clear hj_72); first | lia | grind [zu_at, zu_atL, zvn]))) (fun o_3 ho_3 => ?_)
  refine zw_zb0 (sf_X12_highOf p1 0 f2 f3 f7 f5 f6 (by first | with_reducible assumption | exact ⟨by with_reducible assumption, by with_reducible assumption⟩ | ((try clear hj_72); first | lia | grind [zu_at, zu_atL, zvn])) (by first | with_reducible assumption | exact ⟨by with_reducible assumption, by with_reducible assumption⟩ | ((try clear hj_72); first | lia | grind [zu_at, zu_atL, zvn])) (by first | with_reducible assumption | exact ⟨by with_reducible assumption, by with_reducible assumption⟩ | ((try clear hj_72); first | lia | grind [zu_at, zu_atL, zvn])) (by first | with_reducible assumption | exact ⟨by with_reducible assumption, by with_reducible assumption⟩ | ((try clear hj_72); first | lia | grind [zu_at, zu_atL, zvn]))) (fun o_7 ho_7 => ?_)
  refine zw_zb0 (sf_X12_lowOf p1 1 f2 f3 f4 f5 f6 (by first | with_reducible assumption | exact ⟨by with_reducible assumption, by with_reducible assumption⟩ | ((try clear hj_72); first | lia | grind [zu_at, zu_atL, zvn])) (by first | with_reducible assumption | exact ⟨by with_reducible assumption, by with_reducible assumption⟩ | ((try clear hj_72); first | lia | grind [zu_at, zu_atL, zvn])) (by first | with_reducible assumption | exact ⟨by with_reducible assumption, by with_reducible assumption⟩ | ((try clear hj_72); first | lia | grind [zu_at, zu_atL, zvn])) (by first | with_reducible assumption | exact ⟨by with_reducible assumption, by with_reducible assumption⟩ | ((try clear hj_72); first | lia | grind [zu_at, zu_atL, zvn]))) (fun o_11 ho_11 => ?_)
  refine zw_zb0 (sf_X12_highOf p1 1 f2 f3 f7 f5 f6 (by first | with_reducible assumption | exact ⟨by with_reducible assumption, by with_reducible assumption⟩ | ((try clear hj_72); first | lia | grind [zu_at, zu_atL, zvn])) (by first | with_reducible assumption | exact ⟨by with_reducible assumption, by with_reducible assumption⟩ | ((try clear hj_72); first | lia | grind [zu_at, zu_atL, zvn])) (by first | with_reducible assumption | exact ⟨by with_reducible assumption, by with_reducible assumption⟩ | ((try clear hj_72); first | lia | grind [zu_at, zu_atL, zvn])) (by first | with_reducible assumption | exact ⟨by with_reducible assumption, by with_reducible assumption⟩ | ((try clear hj_72); first | lia | grind [zu_at, zu_atL, zvn]))) (fun o_15 ho_15 => ?_)
  refine zw_if (fun c3 => ?_) (fun c3 => ?_)
  · refine zw_zg32 14 (by decide) (by (try dsimp only); ((try clear hj_72); first | lia | grind [zu_at, zu_atL, zvn])) ?_
    refine zw_some ?_
    first | exact True.intro | ((try dsimp only); (repeat' apply And.intro) <;> first | with_reducible assumption | ((try clear hj_72); first | lia | grind [zu_at, zu_atL, zvn]))
  refine zw_if (fun c4 => ?_) (fun c4 => ?_)
  · refine zw_zb0 (sf_X12_two 3 o_3 o_11 (1 : Int64) (by first | with_reducible assumption | exact ⟨by with_reducible assumption, by with_reducible assumption⟩ | ((try clear hj_72); first | lia | grind [zu_at, zu_atL, zvn]))) (fun o_30 ho_30 => ?_)
    refine zw_zb0 (sf_X12_two 3 o_3 o_15 (1 : Int64) (by first | with_reducible assumption | exact ⟨by with_reducible assumption, by with_reducible assumption⟩ | ((try clear hj_72); first | lia | grind [zu_at, zu_atL, zvn]))) (fun o_34 ho_34 => ?_)
    refine zw_zb0 (sf_X12_two 3 o_7 o_11 (1 : Int64) (by first | with_reducible assumption | exact ⟨by with_reducible assumption, by with_reducible assumption⟩ | ((try clear hj_72); first | lia | grind [zu_at, zu_atL, zvn]))) (fun o_38 ho_38 => ?_)
    refine zw_zb0 (sf_X12_two 3 o_7 o_15 (1 : Int64) (by first | with_reducible assumption | exact ⟨by with_reducible assumption, by with_reducible assumption⟩ | ((try clear hj_72); first | lia | grind [zu_at, zu_atL, zvn]))) (fun o_42 ho_42 => ?_)
    refine zw_zb0 (sf_X12_lesser o_30 o_34) (fun o_46 ho_46 => ?_)
    refine zw_zb0 (sf_X12_lesser o_38 o_42) (fun o_50 ho_50 => ?_)
    refine zw_zb0 (sf_X12_lesser o_46 o_50) (fun o_54 ho_54 => ?_)
    refine zw_zg32 14 (by decide) (by (try dsimp only); ((try clear hj_72); first | lia | grind [zu_at, zu_atL, zvn])) ?_
    refine zw_zb0 (sf_X12_greater o_30 o_34) (fun o_59 ho_59 => ?_)
    refine zw_zb0 (sf_X12_greater o_38 o_42) (fun o_63 ho_63 => ?_)
    refine zw_zb0 (sf_X12_greater o_59 o_63) (fun o_67 ho_67 => ?_)
    refine zw_some ?_
    first | exact True.intro | ((try dsimp only); (repeat' apply And.intro) <;> first | with_reducible assumption | ((try clear hj_72); first | lia | grind [zu_at, zu_atL, zvn]))
  refine zw_zb0 (sf_X12_two (f1 p1.toNatClampNeg) o_3 o_11 (1 : Int64) (by first | with_reducible assumption | exact ⟨by with_reducible assumption, by with_reducible assumption⟩ | ((try clear hj_72); first | lia | grind [zu_at, zu_atL, zvn]))) (fun o_21 ho_21 => ?_)
  refine zw_zg32 14 (by decide) (by (try dsimp only); ((try clear hj_72); first | lia | grind [zu_at, zu_atL, zvn])) ?_
  refine zw_zb0 (sf_X12_two (f1 p1.toNatClampNeg) o_7 o_15 (1 : Int64) (by first | with_reducible assumption | exact ⟨by with_reducible assumption, by with_reducible assumption⟩ | ((try clear hj_72); first | lia | grind [zu_at, zu_atL, zvn]))) (fun o_26 ho_26 => ?_)
  refine zw_some ?_
  first | exact True.intro | ((try dsimp only); (repeat' apply And.intro) <;> first | with_reducible assumption | ((try clear hj_72); first | lia | grind [zu_at, zu_atL, zvn]))
set_option maxHeartbeats 4000000 in
set_option maxRecDepth 100000 in
theorem sf_X12_mostOf (p1 : Int32) (f1 : Nat → Int64) (f2 : Nat → Int64) (h_p1 : 0 ≤ p1 ∧ p1 ≤ 13) : zw (fn_X12_mostOf p1 f1 f2) (fun r => True) := by
  unfold fn_X12_mostOf
  refine zw_zg32 14 (by decide) (by (try dsimp only); first | lia | grind [zu_at, zu_atL, zvn]) ?_
  refine zw_zb0 (sf_X12_amount (f1 p1.toNatClampNeg)) (fun o_2 ho_2 => ?_)
  refine zw_zb0 (sf_X12_amount (f2 p1.toNatClampNeg)) (fun o_6 ho_6 => ?_)
  refine zw_zb0 (sf_X12_greater o_2 o_6) (fun o_10 ho_10 => ?_)
  refine zw_some ?_
  first | exact True.intro | ((try dsimp only); (repeat' apply And.intro) <;> first | with_reducible assumption | first | lia | grind [zu_at, zu_atL, zvn])
set_option maxHeartbeats 4000000 in
set_option maxRecDepth 100000 in
theorem sf_X12_isGreatPart (p1 : Int32) (f1 : Nat → Int32) (h_p1 : (-1) ≤ p1 ∧ p1 ≤ 13) (h_f1 : (∀ i : Nat, 0 ≤ f1 i ∧ f1 i ≤ 1)) : zw (fn_X12_isGreatPart p1 f1) (fun r => 0 ≤ r ∧ r ≤ 1 ∧ r ≤ p1 + 1 ∧ (¬ r = 0 → 0 ≤ p1 ∧ 1 ≤ r ∧ (f1 p1.toNatClampNeg) ≤ 1 ∧ 1 ≤ (f1 p1.toNatClampNeg)) ∧ (r = 1 → 0 ≤ p1 ∧ (f1 p1.toNatClampNeg) ≤ 1 ∧ 1 ≤ (f1 p1.toNatClampNeg) ∧ (f1 p1.toNatClampNeg) ≤ r) ∧ (¬ r = 1 → r ≤ 0)) := by
  unfold fn_X12_isGreatPart
  refine zw_if (fun c1 => ?_) (fun c1 => ?_)
  · refine zw_some ?_
    first | exact True.intro | ((try dsimp only); (repeat' apply And.intro) <;> first | with_reducible assumption | first | lia | grind [zu_at, zu_atL, zvn])
  refine zw_zg32 14 (by decide) (by (try dsimp only); first | lia | grind [zu_at, zu_atL, zvn]) ?_
  refine zw_if (fun c2 => ?_) (fun c2 => ?_)
  · refine zw_some ?_
    first | exact True.intro | ((try dsimp only); (repeat' apply And.intro) <;> first | with_reducible assumption | first | lia | grind [zu_at, zu_atL, zvn])
  refine zw_some ?_
  first | exact True.intro | ((try dsimp only); (repeat' apply And.intro) <;> first | with_reducible assumption | first | lia | grind [zu_at, zu_atL, zvn])
set_option maxHeartbeats 4000000 in
set_option maxRecDepth 100000 in
theorem sf_X12_range (p1 : Int32) (p2 : Int32) (v0_33 : Int32) (w0_34 : Int64) (f1 : Nat → Int32) (f2 : Nat → Int32) (f3 : Nat → Int32) (f4 : Nat → Int32) (f5 : Nat → Int32) (f6 : Nat → Int64) (f7 : Nat → Int64) (f8 : Nat → Int64) (f9 : Nat → Int64) (h_p2 : 0 ≤ p2 ∧ p2 ≤ 1) (h_f1 : (∀ i : Nat, 0 ≤ f1 i ∧ f1 i ≤ 14)) (h_f2 : (∀ i : Nat, (-1) ≤ f2 i ∧ f2 i ≤ 13)) (h_f3 : (∀ i : Nat, 0 ≤ f3 i ∧ f3 i ≤ 1)) (h_f4 : (∀ i : Nat, (-1) ≤ f4 i ∧ f4 i ≤ 13)) : zw (fn_X12_range p1 p2 v0_33 w0_34 f1 f2 f3 f4 f5 f6 f7 f8 f9) (fun r => (∀ i : Nat, 0 ≤ r.2.2.1 i ∧ r.2.2.1 i ≤ 1)) := by
  unfold fn_X12_range
  refine zw_zb0 (sf_X12_isNumber p1 f1 (by first | with_reducible assumption | exact ⟨by with_reducible assumption, by with_reducible assumption⟩ | first | lia | grind [zu_at, zu_atL, zvn])) (fun o_1 ho_1 => ?_)
  obtain ⟨ho_1_0, ho_1_1, ho_1_2, ho_1_3, ho_1_4, ho_1_5⟩ := ho_1
  refine zw_if (fun c1 => ?_) (fun c1 => ?_)
  · refine zw_some ?_
    first | exact True.intro | ((try dsimp only); (repeat' apply And.intro) <;> first | with_reducible assumption | first | lia | grind [zu_at, zu_atL, zvn])
  refine zw_zl32 (fun s_6 => (∀ i : Nat, 0 ≤ s_6.2.2.2 i ∧ s_6.2.2.2 i ≤ 1) ∧ 0 ≤ s_6.1 ∧ s_6.1 ≤ 14 ∧ s_6.1 ≤ p1 + 1) (fun s_6 => 14 - s_6.1) (by (try dsimp only); (repeat' apply And.intro) <;> first | with_reducible assumption | first | lia | grind [zu_at, zu_atL, zvn]) (by (try dsimp only); first | lia | grind [zu_at, zu_atL, zvn]) (fun s_6 back_6 Hback_6 hback_6 => ?_)
  obtain ⟨s_6_0, s_6_1, s_6_2, s_6_3⟩ := s_6
  try dsimp only at Hback_6 hback_6
  obtain ⟨Hback_6_0, Hback_6_1, Hback_6_2, Hback_6_3⟩ := Hback_6
  refine zw_if (fun c2 => ?_) (fun c2 => ?_)
  · refine zw_zg32 14 (by decide) (by (try dsimp only); ((try clear hback_6); first | lia | grind [zu_at, zu_atL, zvn])) ?_
    refine zw_if (fun c3 => ?_) (fun c3 => ?_)
    · refine zw_if (fun c4 => ?_) (fun c4 => ?_)
      · refine zw_some ?_
        first | exact True.intro | ((try dsimp only); (repeat' apply And.intro) <;> first | with_reducible assumption | ((try clear hback_6); first | lia | grind [zu_at, zu_atL, zvn]))
      refine zw_some ?_
      first | exact True.intro | ((try dsimp only); (repeat' apply And.intro) <;> first | with_reducible assumption | ((try clear hback_6); first | lia | grind [zu_at, zu_atL, zvn]))
    refine zw_some ?_
    first | exact True.intro | ((try dsimp only); (repeat' apply And.intro) <;> first | with_reducible assumption | ((try clear hback_6); first | lia | grind [zu_at, zu_atL, zvn]))
  refine zw_zg32 28 (by decide) (by (try dsimp only); ((try clear hback_6); first | lia | grind [zu_at, zu_atL, zvn])) ?_
  refine zw_zb0 (sf_X12_isGreatPart (f2 s_6_0.toNatClampNeg) s_6_3 (by first | with_reducible assumption | exact ⟨by with_reducible assumption, by with_reducible assumption⟩ | ((try clear hback_6); first | lia | grind [zu_at, zu_atL, zvn])) (by first | with_reducible assumption | exact ⟨by with_reducible assumption, by with_reducible assumption⟩ | ((try clear hback_6); first | lia | grind [zu_at, zu_atL, zvn]))) (fun o_12 ho_12 => ?_)
  obtain ⟨ho_12_0, ho_12_1, ho_12_2, ho_12_3, ho_12_4, ho_12_5⟩ := ho_12
  refine zw_zj (fun s_16 => 0 ≤ s_16 ∧ s_16 ≤ 1 ∧ o_12 ≤ s_16) (fun s_16 Hj_16 => ?_) (fun j_16 hj_16 => ?_)
  · obtain ⟨Hj_16_0, Hj_16_1, Hj_16_2⟩ := Hj_16
    refine zw_zg32 14 (by decide) (by (try dsimp only); ((try clear hback_6); (try clear hj_16); first | lia | grind [zu_at, zu_atL, zvn])) ?_
    refine zw_zn (fun x_18 ex_18 => ?_)
    refine zw_if (fun c5 => ?_) (fun c5 => ?_)
    · refine zw_zb0 (sf_X12_laysRange s_6_0 (-1) w0_34 f5 f2 f4 s_6_1 f7 f8 s_6_2 (by first | with_reducible assumption | exact ⟨by with_reducible assumption, by with_reducible assumption⟩ | ((try clear hback_6); (try clear hj_16); first | lia | grind [zu_at, zu_atL, zvn])) (by first | with_reducible assumption | exact ⟨by with_reducible assumption, by with_reducible assumption⟩ | ((try clear hback_6); (try clear hj_16); first | lia | grind [zu_at, zu_atL, zvn])) (by first | with_reducible assumption | exact ⟨by with_reducible assumption, by with_reducible assumption⟩ | ((try clear hback_6); (try clear hj_16); first | lia | grind [zu_at, zu_atL, zvn]))) (fun o_20 ho_20 => ?_)
      obtain ⟨o_20_0, o_20_1⟩ := o_20
      try dsimp only at ho_20
      refine zw_zb0 (sf_X12_mostOf s_6_0 o_20_0 o_20_1 (by first | with_reducible assumption | exact ⟨by with_reducible assumption, by with_reducible assumption⟩ | ((try clear hback_6); (try clear hj_16); first | lia | grind [zu_at, zu_atL, zvn]))) (fun o_24 ho_24 => ?_)
      refine zw_ifc (lg_cmp_le _ _) (fun c6 => ?_) (fun c6 => ?_)
      · refine zw_zn1 ?_
        exact hback_6 _ (by (try dsimp only); (repeat' apply And.intro) <;> first | with_reducible assumption | ((try clear hback_6); (try clear hj_16); first | lia | grind [zu_at, zu_atL, zvn])) (by (try dsimp only); ((try clear hback_6); (try clear hj_16); first | lia | grind [zu_at, zu_atL, zvn])) (by (try dsimp only); ((try clear hback_6); (try clear hj_16); first | lia | grind [zu_at, zu_atL, zvn]))
      refine zw_zn1 ?_
      exact hback_6 _ (by (try dsimp only); (repeat' apply And.intro) <;> first | with_reducible assumption | ((try clear hback_6); (try clear hj_16); first | lia | grind [zu_at, zu_atL, zvn])) (by (try dsimp only); ((try clear hback_6); (try clear hj_16); first | lia | grind [zu_at, zu_atL, zvn])) (by (try dsimp only); ((try clear hback_6); (try clear hj_16); first | lia | grind [zu_at, zu_atL, zvn]))
    exact hback_6 _ (by (try dsimp only); (repeat' apply And.intro) <;> first | with_reducible assumption | ((try clear hback_6); (try clear hj_16); first | lia | grind [zu_at, zu_atL, zvn])) (by (try dsimp only); ((try clear hback_6); (try clear hj_16); first | lia | grind [zu_at, zu_atL, zvn])) (by (try dsimp only); ((try clear hback_6); (try clear hj_16); first | lia | grind [zu_at, zu_atL, zvn]))
  refine zw_zj (fun _ => True) (fun s_31 Hj_31 => ?_) (fun j_31 hj_31 => ?_)
  · exact hj_16 _ (by first | exact True.intro | ((try dsimp only); (repeat' apply And.intro) <;> first | with_reducible assumption | ((try clear hback_6); (try clear hj_16); (try clear hj_31); first | lia | grind [zu_at, zu_atL, zvn])))
  refine zw_if (fun c7 => ?_) (fun c7 => ?_)
  · refine zw_zb0 (sf_X12_isGreatPart (f4 s_6_0.toNatClampNeg) s_6_3 (by first | with_reducible assumption | exact ⟨by with_reducible assumption, by with_reducible assumption⟩ | ((try clear hback_6); (try clear hj_16); (try clear hj_31); first | lia | grind [zu_at, zu_atL, zvn])) (by first | with_reducible assumption | exact ⟨by with_reducible assumption, by with_reducible assumption⟩ | ((try clear hback_6); (try clear hj_16); (try clear hj_31); first | lia | grind [zu_at, zu_atL, zvn]))) (fun o_33 ho_33 => ?_)
    obtain ⟨ho_33_0, ho_33_1, ho_33_2, ho_33_3, ho_33_4, ho_33_5⟩ := ho_33
    refine zw_if (fun c8 => ?_) (fun c8 => ?_)
    · exact hj_16 _ (by first | exact True.intro | ((try dsimp only); (repeat' apply And.intro) <;> first | with_reducible assumption | ((try clear hback_6); (try clear hj_16); (try clear hj_31); first | lia | grind [zu_at, zu_atL, zvn])))
    exact hj_31 _ (by first | exact True.intro | ((try dsimp only); (repeat' apply And.intro) <;> first | with_reducible assumption | ((try clear hback_6); (try clear hj_16); (try clear hj_31); first | lia | grind [zu_at, zu_atL, zvn])))
  exact hj_31 _ (by first | exact True.intro | ((try dsimp only); (repeat' apply And.intro) <;> first | with_reducible assumption | ((try clear hback_6); (try clear hj_16); (try clear hj_31); first | lia | grind [zu_at, zu_atL, zvn])))
