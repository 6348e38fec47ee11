set_option maxHeartbeats 4000000 in
set_option maxRecDepth 100000 in
theorem sf_X1_errorAt (p1 : Int32) (p2 : Int32) (v0_3 : Int32) (n1 : Nat) (f1 : Nat → Int32) (h_v0_3 : 0 ≤ v0_3 ∧ v0_3 ≤ 14) (h_n1 : n1 ≤ 14336) (hN_n1 : 0 ≤ Int32.ofNat n1 ∧ Int32.ofNat n1 ≤ 14336) : zw (fn_X1_errorAt p1 p2 v0_3 n1 f1) (fun r => (¬ r = 1000001 → 1 ≤ (Int32.ofNat n1))) := by
  unfold fn_X1_errorAt
  refine zw_if (fun c1 => ?_) (fun c1 => ?_)
  · refine zw_some ?_
    first | exact True.intro | ((try dsimp only); (repeat' apply And.intro) <;> first | with_reducible assumption | first | lia | grind [zu_at, zu_atL, zvn])
  refine zw_if (fun c2 => ?_) (fun c2 => ?_)
  · refine zw_some ?_
    first | exact True.intro | ((try dsimp only); (repeat' apply And.intro) <;> first | with_reducible assumption | first | lia | grind [zu_at, zu_atL, zvn])
  refine zw_zgN (by (try dsimp only); first | lia | grind [zu_at, zu_atL, zvn]) (by (try dsimp only); first | lia | grind [zu_at, zu_atL, zvn]) ?_
  refine zw_some ?_
  first | exact True.intro | ((try dsimp only); (repeat' apply And.intro) <;> first | with_reducible assumption | first | lia | grind [zu_at, zu_atL, zvn])
