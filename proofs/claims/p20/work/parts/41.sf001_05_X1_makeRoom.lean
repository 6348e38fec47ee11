set_option maxHeartbeats 4000000 in
set_option maxRecDepth 100000 in
theorem sf_X1_makeRoom (p1 : Int32) (v0_3 : Int32) (n1 : Nat) (f1 : Nat → Int32) (n2 : Nat) (f2 : Nat → Int32) (n3 : Nat) (f3 : Nat → Int32) (n4 : Nat) (f4 : Nat → Int32) (n5 : Nat) (f5 : Nat → Int32) (h_p1 : 0 ≤ p1 ∧ p1 ≤ 1024) (h_v0_3 : 0 ≤ v0_3 ∧ v0_3 ≤ 14) (h_n1 : n1 ≤ 1024) (hN_n1 : 0 ≤ Int32.ofNat n1 ∧ Int32.ofNat n1 ≤ 1024) (h_n2 : n2 ≤ 14336) (hN_n2 : 0 ≤ Int32.ofNat n2 ∧ Int32.ofNat n2 ≤ 14336) (h_n3 : n3 ≤ 1024) (hN_n3 : 0 ≤ Int32.ofNat n3 ∧ Int32.ofNat n3 ≤ 1024) (h_n4 : n4 ≤ 1024) (hN_n4 : 0 ≤ Int32.ofNat n4 ∧ Int32.ofNat n4 ≤ 1024) (h_n5 : n5 ≤ 1024) (hN_n5 : 0 ≤ Int32.ofNat n5 ∧ Int32.ofNat n5 ≤ 1024) (hr_0 : (Int32.ofNat n1) ≤ (Int32.ofNat n4)) (hr_1 : (Int32.ofNat n1) ≤ (Int32.ofNat n3)) (hr_2 : (Int32.ofNat n1) ≤ (Int32.ofNat n5)) (hr_3 : (Int32.ofNat n4) ≤ (Int32.ofNat n1)) (hr_4 : (Int32.ofNat n3) ≤ (Int32.ofNat n1)) (hr_5 : (Int32.ofNat n5) ≤ (Int32.ofNat n1)) : zw (fn_X1_makeRoom p1 v0_3 n1 f1 n2 f2 n3 f3 n4 f4 n5 f5) (fun r => r.2.1 ≤ 1024 ∧ 0 ≤ Int32.ofNat r.2.1 ∧ Int32.ofNat r.2.1 ≤ 1024 ∧ r.2.2.2.1 ≤ 14336 ∧ 0 ≤ Int32.ofNat r.2.2.2.1 ∧ Int32.ofNat r.2.2.2.1 ≤ 14336 ∧ r.2.2.2.2.2.1 ≤ 1024 ∧ 0 ≤ Int32.ofNat r.2.2.2.2.2.1 ∧ Int32.ofNat r.2.2.2.2.2.1 ≤ 1024 ∧ r.2.2.2.2.2.2.2.1 ≤ 1024 ∧ 0 ≤ Int32.ofNat r.2.2.2.2.2.2.2.1 ∧ Int32.ofNat r.2.2.2.2.2.2.2.1 ≤ 1024 ∧ r.2.2.2.2.2.2.2.2.2 ≤ 1024 ∧ 0 ≤ Int32.ofNat r.2.2.2.2.2.2.2.2.2 ∧ Int32.ofNat r.2.2.2.2.2.2.2.2.2 ≤ 1024 ∧ (Int32.ofNat r.2.1) ≤ (Int32.ofNat r.2.2.2.2.2.2.2.1) ∧ (Int32.ofNat r.2.1) ≤ (Int32.ofNat r.2.2.2.2.2.1) ∧ (Int32.ofNat r.2.1) ≤ (Int32.ofNat r.2.2.2.2.2.2.2.2.2) ∧ (Int32.ofNat r.2.2.2.2.2.2.2.1) ≤ (Int32.ofNat r.2.1) ∧ (Int32.ofNat r.2.2.2.2.2.1) ≤ (Int32.ofNat r.2.1) ∧ (Int32.ofNat r.2.2.2.2.2.2.2.2.2) ≤ (Int32.ofNat r.2.1) ∧ (Int32.ofNat n1) ≤ (Int32.ofNat r.2.1)) := by
  unfold fn_X1_makeRoom
  refine zw_if (fun c1 => ?_) (fun c1 => ?_)
  · refine zw_if (fun c2 => ?_) (fun c2 => ?_)
    · refine zw_some ?_
      first | exact True.intro | ((try dsimp only); (repeat' apply And.intro) <;> first | with_reducible assumption | first | lia | grind [zu_at, zu_atL, zvn, zmul14, zofn', zcl1024, zcl14336])
    refine zw_za32 14336 (by decide) (by (try dsimp only); first | lia | grind [zu_at, zu_atL, zvn, zmul14, zofn', zcl1024, zcl14336]) ?_
    refine zw_some ?_
    first | exact True.intro | ((try dsimp only); (repeat' apply And.intro) <;> first | with_reducible assumption | first | lia | grind [zu_at, zu_atL, zvn, zmul14, zofn', zcl1024, zcl14336])
  refine zw_za32 1024 (by decide) (by (try dsimp only); first | lia | grind [zu_at, zu_atL, zvn, zmul14, zofn', zcl1024, zcl14336]) ?_
  refine zw_za32 1024 (by decide) (by (try dsimp only); first | lia | grind [zu_at, zu_atL, zvn, zmul14, zofn', zcl1024, zcl14336]) ?_
  refine zw_za32 1024 (by decide) (by (try dsimp only); first | lia | grind [zu_at, zu_atL, zvn, zmul14, zofn', zcl1024, zcl14336]) ?_
  refine zw_za32 1024 (by decide) (by (try dsimp only); first | lia | grind [zu_at, zu_atL, zvn, zmul14, zofn', zcl1024, zcl14336]) ?_
  refine zw_if (fun c3 => ?_) (fun c3 => ?_)
  · refine zw_some ?_
    first | exact True.intro | ((try dsimp only); (repeat' apply And.intro) <;> first | with_reducible assumption | first | lia | grind [zu_at, zu_atL, zvn, zmul14, zofn', zcl1024, zcl14336])
  refine zw_za32 14336 (by decide) (by (try dsimp only); first | lia | grind [zu_at, zu_atL, zvn, zmul14, zofn', zcl1024, zcl14336]) ?_
  refine zw_some ?_
  first | exact True.intro | ((try dsimp only); (repeat' apply And.intro) <;> first | with_reducible assumption | first | lia | grind [zu_at, zu_atL, zvn, zmul14, zofn', zcl1024, zcl14336])
