theorem zm_el : ∀ j, j < 91 → (Cond.eq (.elem (.field (.string "ShortEnough$Words" 19) "java/lang/String" "value" "[B") (.int (Int32.ofNat j))) (.int (([zBY].getD 0 []).getD j 0))) ∈ flatC (Jvm.Cond.and given_1 narrow_1) := by decide +kernel
theorem zF_of {b : Nat} {s : State} {A : Nat → Prop} (hts : ∀ w ∈ lw_tbl, w.before #[Value.ref b] s = true) (hgv : (Jvm.Cond.and given_1 narrow_1).before #[Value.ref b] s = true) (hA0 : ∀ a : Nat, a < s.heap.size → ¬ A a) : ∃ adK adV : Nat → Nat, zF adK adV A s s.heap := by
  have hs := flat_of_before _ hgv
  obtain ⟨adK, adV, hE, hK0⟩ := vk_Sof (args := #[Value.ref b]) (s := s) (N := 1) (tm := fun _ => .string "ShortEnough$Words" 19) (len := [91]) (byt := [zBY]) (A := A) (fun i hi => by (obtain rfl : i = 0 := (by omega)); exact Nat.le_of_ble_eq_true rfl) (fun i hi => hs _ (by decide +kernel)) (fun i hi => hs _ (by decide +kernel)) (fun i hi => hs _ (by decide +kernel)) (fun i hi => by (obtain rfl : i = 0 := (by omega)); exact hs _ (by decide +kernel)) (fun i hi j hj => by (obtain rfl : i = 0 := (by omega)); exact hs _ (zm_el j hj)) (fun i j hi hj hne => absurd (by omega) hne) hA0
  exact ⟨adK, adV, vk_R.of (hts _ (List.mem_append_right _ (by decide +kernel))) (hK0 0 (by decide)), hE, va_Zof (hts _ (List.mem_append_right _ (by decide +kernel))) (hts _ (List.mem_append_right _ (by decide +kernel))) (va_eqi (hs _ (by decide +kernel))) hA0, va_Zqof (hts _ (List.mem_append_right _ (by decide +kernel))) (hts _ (List.mem_append_right _ (by decide +kernel))) (hs _ (by decide +kernel)) hA0⟩
theorem zw_nest_0 : Cond.methodLinkNest RX6 83 yX11_apply RX11 ∈ tables_1 := zT_4 _ (List.mem_of_getElem? (i := 47) rfl)
theorem zw_nest_1 : Cond.methodLinkNest RX7 90 yX11_divides RX11 ∈ tables_1 := zT_4 _ (List.mem_of_getElem? (i := 237) rfl)
theorem zw_nest_2 : Cond.methodLinkNest RX3 128 yX11_copyChoice RX11 ∈ tables_1 := zT_5 _ (List.mem_of_getElem? (i := 132) rfl)
theorem zw_nest_3 : Cond.methodLinkNest RX8 60 yX11_apply RX11 ∈ tables_1 := zT_5 _ (List.mem_of_getElem? (i := 239) rfl)
theorem zw_nest_4 : Cond.methodLinkNest RX8 52 yX11_nearest RX11 ∈ tables_1 := zT_5 _ (List.mem_of_getElem? (i := 234) rfl)
theorem zw_nest_5 : Cond.methodLinkNest RX11 19 yX5_init RX11 ∈ tables_1 := zT_1 _ (List.mem_of_getElem? (i := 29) rfl)
theorem zw_nest_6 : Cond.methodLinkNest RX11 26 yX9_init RX11 ∈ tables_1 := zT_1 _ (List.mem_of_getElem? (i := 136) rfl)
theorem zw_nest_7 : Cond.methodLinkNest RX9 26 yX4_init RX11 ∈ tables_1 := zT_1 _ (List.mem_of_getElem? (i := 142) rfl)
theorem zw_nest_8 : Cond.methodLinkNest RX9 33 yX2_init RX11 ∈ tables_1 := zT_1 _ (List.mem_of_getElem? (i := 204) rfl)
theorem zw_nest_9 : Cond.methodLinkNest RX9 40 yX6_init RX11 ∈ tables_1 := zT_2 _ (List.mem_of_getElem? (i := 0) rfl)
theorem zw_nest_10 : Cond.methodLinkNest RX11 42 yX7_init RX11 ∈ tables_1 := zT_2 _ (List.mem_of_getElem? (i := 74) rfl)
theorem zw_nest_11 : Cond.methodLinkNest RX11 52 yX6_init RX11 ∈ tables_1 := zT_2 _ (List.mem_of_getElem? (i := 94) rfl)
theorem zw_nest_12 : Cond.methodLinkNest RX11 59 yX1_init RX11 ∈ tables_1 := zT_2 _ (List.mem_of_getElem? (i := 97) rfl)
theorem zw_nest_13 : Cond.methodLinkNest RX1 11 yX7_init RX11 ∈ tables_1 := zT_2 _ (List.mem_of_getElem? (i := 102) rfl)
theorem zw_nest_14 : Cond.methodLinkNest RX11 66 yX3_init RX11 ∈ tables_1 := zT_2 _ (List.mem_of_getElem? (i := 155) rfl)
theorem zw_nest_15 : Cond.methodLinkNest RX3 11 yX7_init RX11 ∈ tables_1 := zT_2 _ (List.mem_of_getElem? (i := 160) rfl)
theorem zw_nest_16 : Cond.methodLinkNest RX11 73 yX0_init RX11 ∈ tables_1 := zT_2 _ (List.mem_of_getElem? (i := 219) rfl)
theorem zw_nest_17 : Cond.methodLinkNest RX0 11 yX6_init RX11 ∈ tables_1 := zT_2 _ (List.mem_of_getElem? (i := 224) rfl)
theorem zw_nest_18 : Cond.methodLinkNest RX0 20 yX7_init RX11 ∈ tables_1 := zT_2 _ (List.mem_of_getElem? (i := 226) rfl)
theorem zw_nest_19 : Cond.methodLinkNest RX11 80 yX8_init RX11 ∈ tables_1 := zT_3 _ (List.mem_of_getElem? (i := 7) rfl)
