theorem dX12_number__5 : decode cX12_number_ 5 = .ok (.ifCond .ne 6, 3) := by decide +kernel
theorem dX12_number__8 : decode cX12_number_ 8 = .ok (.bipush (-2), 2) := by decide +kernel
theorem dX12_number__10 : decode cX12_number_ 10 = .ok (.ireturn, 1) := by decide +kernel
theorem dX12_told_0 : decode cX12_told 0 = .ok (.aload_n 0, 1) := by decide +kernel
theorem dX12_told_1 : decode cX12_told 1 = .ok (.iload_n 1, 1) := by decide +kernel
theorem dX12_told_2 : decode cX12_told 2 = .ok (.invokevirtual 373, 3) := by decide +kernel
theorem dX12_told_5 : decode cX12_told 5 = .ok (.ifCond .eq 13, 3) := by decide +kernel
theorem dX12_told_18 : decode cX12_told 18 = .ok (.ldc2_w 381, 3) := by decide +kernel
theorem dX12_told_21 : decode cX12_told 21 = .ok (.lreturn, 1) := by decide +kernel
theorem dX12_range_0 : decode cX12_range 0 = .ok (.aload_n 0, 1) := by decide +kernel
theorem dX12_range_1 : decode cX12_range 1 = .ok (.iload_n 1, 1) := by decide +kernel
theorem dX12_range_2 : decode cX12_range 2 = .ok (.invokevirtual 373, 3) := by decide +kernel
theorem dX12_range_5 : decode cX12_range 5 = .ok (.ifCond .ne 7, 3) := by decide +kernel
theorem dX12_range_8 : decode cX12_range 8 = .ok (.ldc2_w 381, 3) := by decide +kernel
theorem dX12_range_11 : decode cX12_range 11 = .ok (.lreturn, 1) := by decide +kernel
theorem dX12_uses_0 : decode cX12_uses 0 = .ok (.aload_n 0, 1) := by decide +kernel
theorem dX12_uses_1 : decode cX12_uses 1 = .ok (.iload_n 1, 1) := by decide +kernel
theorem dX12_uses_2 : decode cX12_uses 2 = .ok (.invokevirtual 373, 3) := by decide +kernel
theorem dX12_uses_5 : decode cX12_uses 5 = .ok (.ifCond .ne 5, 3) := by decide +kernel
theorem dX12_uses_8 : decode cX12_uses 8 = .ok (.iconst (-1), 1) := by decide +kernel
theorem dX12_uses_9 : decode cX12_uses 9 = .ok (.ireturn, 1) := by decide +kernel
theorem dX12_depth_0 : decode cX12_depth 0 = .ok (.aload_n 0, 1) := by decide +kernel
theorem dX12_depth_1 : decode cX12_depth 1 = .ok (.iload_n 1, 1) := by decide +kernel
theorem dX12_depth_2 : decode cX12_depth 2 = .ok (.invokevirtual 373, 3) := by decide +kernel
theorem dX12_depth_5 : decode cX12_depth 5 = .ok (.ifCond .ne 5, 3) := by decide +kernel
theorem dX12_depth_8 : decode cX12_depth 8 = .ok (.iconst (-1), 1) := by decide +kernel
theorem dX12_depth_9 : decode cX12_depth 9 = .ok (.ireturn, 1) := by decide +kernel
theorem dX12_handPasses_0 : decode cX12_handPasses 0 = .ok (.aload_n 0, 1) := by decide +kernel
theorem dX12_handPasses_1 : decode cX12_handPasses 1 = .ok (.iconst (-1), 1) := by decide +kernel
theorem dX12_handPasses_2 : decode cX12_handPasses 2 = .ok (.putfield 112, 3) := by decide +kernel
theorem dX12_handPasses_5 : decode cX12_handPasses 5 = .ok (.aload_n 0, 1) := by decide +kernel
theorem dX12_handPasses_6 : decode cX12_handPasses 6 = .ok (.getfield 128, 3) := by decide +kernel
theorem dX12_handPasses_9 : decode cX12_handPasses 9 = .ok (.ifCond .eq 12, 3) := by decide +kernel
theorem dX12_handPasses_21 : decode cX12_handPasses 21 = .ok (.iconst 0, 1) := by decide +kernel
theorem dX12_handPasses_22 : decode cX12_handPasses 22 = .ok (.ireturn, 1) := by decide +kernel
theorem dX12_chosen_0 : decode cX12_chosen 0 = .ok (.aload_n 0, 1) := by decide +kernel
theorem dX12_chosen_1 : decode cX12_chosen 1 = .ok (.getfield 128, 3) := by decide +kernel
theorem dX12_chosen_4 : decode cX12_chosen 4 = .ok (.ifCond .eq 20, 3) := by decide +kernel
theorem dX12_chosen_24 : decode cX12_chosen 24 = .ok (.iconst (-1), 1) := by decide +kernel
theorem dX12_chosen_25 : decode cX12_chosen 25 = .ok (.ireturn, 1) := by decide +kernel
theorem dX12_choose_0 : decode cX12_choose 0 = .ok (.aload_n 0, 1) := by decide +kernel
theorem dX12_choose_1 : decode cX12_choose 1 = .ok (.getfield 128, 3) := by decide +kernel
theorem dX12_choose_4 : decode cX12_choose 4 = .ok (.ifCond .eq 32, 3) := by decide +kernel
theorem dX12_choose_36 : decode cX12_choose 36 = .ok (.aload_n 0, 1) := by decide +kernel
theorem dX12_choose_37 : decode cX12_choose 37 = .ok (.iconst 2, 1) := by decide +kernel
theorem dX12_choose_38 : decode cX12_choose 38 = .ok (.invokevirtual 216, 3) := by decide +kernel
theorem dX12_choose_41 : decode cX12_choose 41 = .ok (.ireturn, 1) := by decide +kernel
theorem dX12_isThere_0 : decode cX12_isThere 0 = .ok (.aload_n 0, 1) := by decide +kernel
theorem dX12_isThere_1 : decode cX12_isThere 1 = .ok (.getfield 128, 3) := by decide +kernel
theorem dX12_isThere_4 : decode cX12_isThere 4 = .ok (.ifCond .eq 16, 3) := by decide +kernel
theorem dX12_isThere_20 : decode cX12_isThere 20 = .ok (.iconst 0, 1) := by decide +kernel
theorem dX12_isThere_21 : decode cX12_isThere 21 = .ok (.ireturn, 1) := by decide +kernel
theorem dX12_cost_0 : decode cX12_cost 0 = .ok (.aload_n 0, 1) := by decide +kernel
theorem dX12_cost_1 : decode cX12_cost 1 = .ok (.invokevirtual 446, 3) := by decide +kernel
theorem dX12_cost_4 : decode cX12_cost 4 = .ok (.ifCond .ne 5, 3) := by decide +kernel
theorem dX12_cost_7 : decode cX12_cost 7 = .ok (.iconst (-1), 1) := by decide +kernel
theorem dX12_cost_8 : decode cX12_cost 8 = .ok (.ireturn, 1) := by decide +kernel
theorem dX12_casts_0 : decode cX12_casts 0 = .ok (.aload_n 0, 1) := by decide +kernel
theorem dX12_casts_1 : decode cX12_casts 1 = .ok (.invokevirtual 446, 3) := by decide +kernel
theorem dX12_casts_4 : decode cX12_casts 4 = .ok (.ifCond .ne 5, 3) := by decide +kernel
theorem dX12_casts_7 : decode cX12_casts 7 = .ok (.iconst (-1), 1) := by decide +kernel
theorem dX12_casts_8 : decode cX12_casts 8 = .ok (.ireturn, 1) := by decide +kernel
theorem dX12_fails_0 : decode cX12_fails 0 = .ok (.aload_n 0, 1) := by decide +kernel
theorem dX12_fails_1 : decode cX12_fails 1 = .ok (.invokevirtual 446, 3) := by decide +kernel
theorem dX12_fails_4 : decode cX12_fails 4 = .ok (.ifCond .ne 5, 3) := by decide +kernel
theorem dX12_fails_7 : decode cX12_fails 7 = .ok (.iconst (-1), 1) := by decide +kernel
theorem dX12_fails_8 : decode cX12_fails 8 = .ok (.ireturn, 1) := by decide +kernel
theorem dX12_why_0 : decode cX12_why 0 = .ok (.aload_n 0, 1) := by decide +kernel
theorem dX12_why_1 : decode cX12_why 1 = .ok (.invokevirtual 446, 3) := by decide +kernel
theorem dX12_why_4 : decode cX12_why 4 = .ok (.ifCond .ne 5, 3) := by decide +kernel
theorem dX12_why_7 : decode cX12_why 7 = .ok (.iconst (-1), 1) := by decide +kernel
theorem dX12_why_8 : decode cX12_why 8 = .ok (.ireturn, 1) := by decide +kernel
theorem dX12_error_0 : decode cX12_error 0 = .ok (.aload_n 0, 1) := by decide +kernel
theorem dX12_error_1 : decode cX12_error 1 = .ok (.invokevirtual 446, 3) := by decide +kernel
theorem dX12_error_4 : decode cX12_error 4 = .ok (.ifCond .eq 11, 3) := by decide +kernel
theorem dX12_error_15 : decode cX12_error 15 = .ok (.ldc2_w 381, 3) := by decide +kernel
theorem dX12_error_18 : decode cX12_error 18 = .ok (.lreturn, 1) := by decide +kernel
theorem dX12_isAnswer_0 : decode cX12_isAnswer 0 = .ok (.aload_n 0, 1) := by decide +kernel
theorem dX12_isAnswer_1 : decode cX12_isAnswer 1 = .ok (.iload_n 1, 1) := by decide +kernel
theorem dX12_isAnswer_2 : decode cX12_isAnswer 2 = .ok (.invokevirtual 373, 3) := by decide +kernel
theorem dX12_isAnswer_5 : decode cX12_isAnswer 5 = .ok (.ifCond .eq 17, 3) := by decide +kernel
theorem dX12_isAnswer_22 : decode cX12_isAnswer 22 = .ok (.iconst 0, 1) := by decide +kernel
theorem dX12_isAnswer_23 : decode cX12_isAnswer 23 = .ok (.ireturn, 1) := by decide +kernel
theorem dX12_slack_0 : decode cX12_slack 0 = .ok (.aload_n 0, 1) := by decide +kernel
theorem dX12_slack_1 : decode cX12_slack 1 = .ok (.iload_n 1, 1) := by decide +kernel
theorem dX12_slack_2 : decode cX12_slack 2 = .ok (.invokevirtual 455, 3) := by decide +kernel
theorem dX12_slack_5 : decode cX12_slack 5 = .ok (.ifCond .eq 27, 3) := by decide +kernel
theorem dX12_slack_32 : decode cX12_slack 32 = .ok (.ldc2_w 381, 3) := by decide +kernel
theorem dX12_slack_35 : decode cX12_slack 35 = .ok (.lreturn, 1) := by decide +kernel
theorem dX12_widest_0 : decode cX12_widest 0 = .ok (.aload_n 0, 1) := by decide +kernel
theorem dX12_widest_1 : decode cX12_widest 1 = .ok (.iload_n 1, 1) := by decide +kernel
theorem dX12_widest_2 : decode cX12_widest 2 = .ok (.invokevirtual 373, 3) := by decide +kernel
theorem dX12_widest_5 : decode cX12_widest 5 = .ok (.ifCond .eq 19, 3) := by decide +kernel
theorem dX12_widest_24 : decode cX12_widest 24 = .ok (.iconst (-1), 1) := by decide +kernel
theorem dX12_widest_25 : decode cX12_widest 25 = .ok (.ireturn, 1) := by decide +kernel
theorem dX12_blame_0 : decode cX12_blame 0 = .ok (.aload_n 0, 1) := by decide +kernel
theorem dX12_blame_1 : decode cX12_blame 1 = .ok (.iload_n 1, 1) := by decide +kernel
theorem dX12_blame_2 : decode cX12_blame 2 = .ok (.invokevirtual 455, 3) := by decide +kernel
theorem dX12_blame_5 : decode cX12_blame 5 = .ok (.ifCond .eq 31, 3) := by decide +kernel
theorem dX12_blame_36 : decode cX12_blame 36 = .ok (.ldc2_w 381, 3) := by decide +kernel
theorem dX12_blame_39 : decode cX12_blame 39 = .ok (.lreturn, 1) := by decide +kernel
theorem dX12_canSearch_0 : decode cX12_canSearch 0 = .ok (.aload_n 0, 1) := by decide +kernel
theorem dX12_canSearch_1 : decode cX12_canSearch 1 = .ok (.invokevirtual 358, 3) := by decide +kernel
theorem dX12_canSearch_4 : decode cX12_canSearch 4 = .ok (.aload_n 0, 1) := by decide +kernel
theorem dX12_canSearch_5 : decode cX12_canSearch 5 = .ok (.iconst (-1), 1) := by decide +kernel
theorem dX12_canSearch_6 : decode cX12_canSearch 6 = .ok (.putfield 112, 3) := by decide +kernel
theorem dX12_canSearch_9 : decode cX12_canSearch 9 = .ok (.aload_n 0, 1) := by decide +kernel
theorem dX12_canSearch_10 : decode cX12_canSearch 10 = .ok (.getfield 62, 3) := by decide +kernel
theorem dX12_canSearch_13 : decode cX12_canSearch 13 = .ok (.iconst 0, 1) := by decide +kernel
theorem dX12_canSearch_14 : decode cX12_canSearch 14 = .ok (.iaload, 1) := by decide +kernel
theorem dX12_canSearch_15 : decode cX12_canSearch 15 = .ok (.ifCond .le 22, 3) := by decide +kernel
theorem dX12_canSearch_37 : decode cX12_canSearch 37 = .ok (.iconst 0, 1) := by decide +kernel
theorem dX12_canSearch_38 : decode cX12_canSearch 38 = .ok (.ireturn, 1) := by decide +kernel
theorem dX12_cheapest_0 : decode cX12_cheapest 0 = .ok (.aload_n 0, 1) := by decide +kernel
theorem dX12_cheapest_1 : decode cX12_cheapest 1 = .ok (.invokevirtual 471, 3) := by decide +kernel
theorem dX12_cheapest_4 : decode cX12_cheapest 4 = .ok (.ifCond .eq 16, 3) := by decide +kernel
theorem dX12_cheapest_20 : decode cX12_cheapest 20 = .ok (.iconst (-1), 1) := by decide +kernel
theorem dX12_cheapest_21 : decode cX12_cheapest 21 = .ok (.ireturn, 1) := by decide +kernel
theorem dX12_passing_0 : decode cX12_passing 0 = .ok (.aload_n 0, 1) := by decide +kernel
theorem dX12_passing_1 : decode cX12_passing 1 = .ok (.invokevirtual 358, 3) := by decide +kernel
theorem dX12_passing_4 : decode cX12_passing 4 = .ok (.aload_n 0, 1) := by decide +kernel
theorem dX12_passing_5 : decode cX12_passing 5 = .ok (.getfield 62, 3) := by decide +kernel
theorem dX12_passing_8 : decode cX12_passing 8 = .ok (.iconst 0, 1) := by decide +kernel
theorem dX12_passing_9 : decode cX12_passing 9 = .ok (.iaload, 1) := by decide +kernel
theorem dX12_passing_10 : decode cX12_passing 10 = .ok (.ifCond .eq 11, 3) := by decide +kernel
theorem dX12_passing_21 : decode cX12_passing 21 = .ok (.iconst (-1), 1) := by decide +kernel
theorem dX12_passing_22 : decode cX12_passing 22 = .ok (.ireturn, 1) := by decide +kernel
theorem dX12_halve_0 : decode cX12_halve 0 = .ok (.aload_n 0, 1) := by decide +kernel
theorem dX12_halve_1 : decode cX12_halve 1 = .ok (.invokevirtual 358, 3) := by decide +kernel
theorem dX12_halve_4 : decode cX12_halve 4 = .ok (.aload_n 0, 1) := by decide +kernel
theorem dX12_halve_5 : decode cX12_halve 5 = .ok (.iconst (-1), 1) := by decide +kernel
theorem dX12_halve_6 : decode cX12_halve 6 = .ok (.putfield 112, 3) := by decide +kernel
theorem dX12_halve_9 : decode cX12_halve 9 = .ok (.aload_n 0, 1) := by decide +kernel
theorem dX12_halve_10 : decode cX12_halve 10 = .ok (.invokevirtual 446, 3) := by decide +kernel
theorem dX12_halve_13 : decode cX12_halve 13 = .ok (.ifCond .ne 5, 3) := by decide +kernel
theorem dX12_halve_16 : decode cX12_halve 16 = .ok (.iconst 0, 1) := by decide +kernel
theorem dX12_halve_17 : decode cX12_halve 17 = .ok (.ireturn, 1) := by decide +kernel
theorem dX12_halves_0 : decode cX12_halves 0 = .ok (.iload_n 1, 1) := by decide +kernel
theorem dX12_halves_1 : decode cX12_halves 1 = .ok (.iconst (-1), 1) := by decide +kernel
theorem dX12_halves_2 : decode cX12_halves 2 = .ok (.if_icmp .eq 17, 3) := by decide +kernel
theorem dX12_halves_5 : decode cX12_halves 5 = .ok (.iload_n 1, 1) := by decide +kernel
theorem dX12_halves_6 : decode cX12_halves 6 = .ok (.bipush (-2), 2) := by decide +kernel
theorem dX12_halves_8 : decode cX12_halves 8 = .ok (.if_icmp .eq 11, 3) := by decide +kernel
theorem dX12_halves_11 : decode cX12_halves 11 = .ok (.aload_n 0, 1) := by decide +kernel
theorem dX12_halves_12 : decode cX12_halves 12 = .ok (.iload_n 1, 1) := by decide +kernel
theorem dX12_halves_13 : decode cX12_halves 13 = .ok (.invokevirtual 373, 3) := by decide +kernel
theorem dX12_halves_16 : decode cX12_halves 16 = .ok (.ifCond .eq 10, 3) := by decide +kernel
theorem dX12_halves_19 : decode cX12_halves 19 = .ok (.aload_n 0, 1) := by decide +kernel
theorem dX12_halves_20 : decode cX12_halves 20 = .ok (.invokevirtual 487, 3) := by decide +kernel
theorem dX12_halves_23 : decode cX12_halves 23 = .ok (.ifCond .ne 5, 3) := by decide +kernel
theorem dX12_halves_26 : decode cX12_halves 26 = .ok (.iconst (-1), 1) := by decide +kernel
theorem dX12_halves_27 : decode cX12_halves 27 = .ok (.ireturn, 1) := by decide +kernel
theorem dX12_single_0 : decode cX12_single 0 = .ok (.aload_n 0, 1) := by decide +kernel
theorem dX12_single_1 : decode cX12_single 1 = .ok (.invokevirtual 446, 3) := by decide +kernel
theorem dX12_single_4 : decode cX12_single 4 = .ok (.ifCond .eq 15, 3) := by decide +kernel
theorem dX12_single_19 : decode cX12_single 19 = .ok (.iconst (-1), 1) := by decide +kernel
theorem dX12_single_20 : decode cX12_single 20 = .ok (.ireturn, 1) := by decide +kernel
theorem dX12_canTake_0 : decode cX12_canTake 0 = .ok (.iload_n 1, 1) := by decide +kernel
theorem dX12_canTake_1 : decode cX12_canTake 1 = .ok (.ifCond .ne 40, 3) := by decide +kernel
theorem dX12_canTake_4 : decode cX12_canTake 4 = .ok (.aload_n 0, 1) := by decide +kernel
theorem dX12_canTake_5 : decode cX12_canTake 5 = .ok (.invokevirtual 471, 3) := by decide +kernel
theorem dX12_canTake_8 : decode cX12_canTake 8 = .ok (.ifCond .eq 10, 3) := by decide +kernel
theorem dX12_canTake_18 : decode cX12_canTake 18 = .ok (.iconst (-1), 1) := by decide +kernel
theorem dX12_canTake_19 : decode cX12_canTake 19 = .ok (.istore_n 2, 1) := by decide +kernel
theorem dX12_canTake_20 : decode cX12_canTake 20 = .ok (.iload_n 2, 1) := by decide +kernel
theorem dX12_canTake_21 : decode cX12_canTake 21 = .ok (.iconst (-1), 1) := by decide +kernel
theorem dX12_canTake_22 : decode cX12_canTake 22 = .ok (.if_icmp .eq 8, 3) := by decide +kernel
theorem dX12_canTake_30 : decode cX12_canTake 30 = .ok (.iload_n 2, 1) := by decide +kernel
theorem dX12_canTake_31 : decode cX12_canTake 31 = .ok (.iconst (-1), 1) := by decide +kernel
theorem dX12_canTake_32 : decode cX12_canTake 32 = .ok (.if_icmp .eq 7, 3) := by decide +kernel
theorem dX12_canTake_39 : decode cX12_canTake 39 = .ok (.iconst 0, 1) := by decide +kernel
theorem dX12_canTake_40 : decode cX12_canTake 40 = .ok (.ireturn, 1) := by decide +kernel
theorem dX12_canTake_41 : decode cX12_canTake 41 = .ok (.iload_n 1, 1) := by decide +kernel
theorem dX12_canTake_42 : decode cX12_canTake 42 = .ok (.iconst 1, 1) := by decide +kernel
theorem dX12_canTake_43 : decode cX12_canTake 43 = .ok (.if_icmp .ne 44, 3) := by decide +kernel
theorem dX12_canTake_46 : decode cX12_canTake 46 = .ok (.aload_n 0, 1) := by decide +kernel
theorem dX12_canTake_47 : decode cX12_canTake 47 = .ok (.invokevirtual 487, 3) := by decide +kernel
theorem dX12_canTake_50 : decode cX12_canTake 50 = .ok (.istore_n 2, 1) := by decide +kernel
theorem dX12_canTake_51 : decode cX12_canTake 51 = .ok (.iconst 0, 1) := by decide +kernel
theorem dX12_canTake_52 : decode cX12_canTake 52 = .ok (.istore_n 3, 1) := by decide +kernel
theorem dX12_canTake_53 : decode cX12_canTake 53 = .ok (.iload_n 3, 1) := by decide +kernel
theorem dX12_canTake_54 : decode cX12_canTake 54 = .ok (.aload_n 0, 1) := by decide +kernel
theorem dX12_canTake_55 : decode cX12_canTake 55 = .ok (.getfield 62, 3) := by decide +kernel
theorem dX12_canTake_58 : decode cX12_canTake 58 = .ok (.iconst 0, 1) := by decide +kernel
theorem dX12_canTake_59 : decode cX12_canTake 59 = .ok (.iaload, 1) := by decide +kernel
theorem dX12_canTake_60 : decode cX12_canTake 60 = .ok (.if_icmp .ge 25, 3) := by decide +kernel
theorem dX12_canTake_85 : decode cX12_canTake 85 = .ok (.iload_n 2, 1) := by decide +kernel
theorem dX12_canTake_86 : decode cX12_canTake 86 = .ok (.ireturn, 1) := by decide +kernel
theorem dX12_canTake_87 : decode cX12_canTake 87 = .ok (.iload_n 1, 1) := by decide +kernel
theorem dX12_canTake_88 : decode cX12_canTake 88 = .ok (.iconst 2, 1) := by decide +kernel
theorem dX12_canTake_89 : decode cX12_canTake 89 = .ok (.if_icmp .ne 10, 3) := by decide +kernel
theorem dX12_canTake_92 : decode cX12_canTake 92 = .ok (.aload_n 0, 1) := by decide +kernel
theorem dX12_canTake_93 : decode cX12_canTake 93 = .ok (.invokevirtual 446, 3) := by decide +kernel
theorem dX12_canTake_96 : decode cX12_canTake 96 = .ok (.ifCond .ne 5, 3) := by decide +kernel
theorem dX12_canTake_99 : decode cX12_canTake 99 = .ok (.iconst 0, 1) := by decide +kernel
theorem dX12_canTake_100 : decode cX12_canTake 100 = .ok (.ireturn, 1) := by decide +kernel
theorem dX12_take_0 : decode cX12_take 0 = .ok (.aload_n 0, 1) := by decide +kernel
theorem dX12_take_1 : decode cX12_take 1 = .ok (.iload_n 1, 1) := by decide +kernel
theorem dX12_take_2 : decode cX12_take 2 = .ok (.invokevirtual 495, 3) := by decide +kernel
theorem dX12_take_5 : decode cX12_take 5 = .ok (.ifCond .ne 9, 3) := by decide +kernel
theorem dX12_take_8 : decode cX12_take 8 = .ok (.aload_n 0, 1) := by decide +kernel
theorem dX12_take_9 : decode cX12_take 9 = .ok (.iconst 2, 1) := by decide +kernel
theorem dX12_take_10 : decode cX12_take 10 = .ok (.invokevirtual 216, 3) := by decide +kernel
theorem dX12_take_13 : decode cX12_take 13 = .ok (.ireturn, 1) := by decide +kernel
theorem dX12_front_0 : decode cX12_front 0 = .ok (.aload_n 0, 1) := by decide +kernel
theorem dX12_front_1 : decode cX12_front 1 = .ok (.iload_n 1, 1) := by decide +kernel
theorem dX12_front_2 : decode cX12_front 2 = .ok (.invokevirtual 455, 3) := by decide +kernel
theorem dX12_front_5 : decode cX12_front 5 = .ok (.ifCond .eq 22, 3) := by decide +kernel
theorem dX12_front_27 : decode cX12_front 27 = .ok (.ldc2_w 381, 3) := by decide +kernel
theorem dX12_front_30 : decode cX12_front 30 = .ok (.lreturn, 1) := by decide +kernel
theorem dX12_least_0 : decode cX12_least 0 = .ok (.aload_n 0, 1) := by decide +kernel
theorem dX12_least_1 : decode cX12_least 1 = .ok (.iload_n 1, 1) := by decide +kernel
theorem dX12_least_2 : decode cX12_least 2 = .ok (.invokevirtual 455, 3) := by decide +kernel
theorem dX12_least_5 : decode cX12_least 5 = .ok (.ifCond .eq 10, 3) := by decide +kernel
theorem dX12_least_15 : decode cX12_least 15 = .ok (.ldc2_w 381, 3) := by decide +kernel
theorem dX12_least_18 : decode cX12_least 18 = .ok (.lreturn, 1) := by decide +kernel
theorem dX12_certificate_0 : decode cX12_certificate 0 = .ok (.aload_n 0, 1) := by decide +kernel
theorem dX12_certificate_1 : decode cX12_certificate 1 = .ok (.invokevirtual 452, 3) := by decide +kernel
theorem dX12_certificate_4 : decode cX12_certificate 4 = .ok (.ifCond .eq 24, 3) := by decide +kernel
theorem dX12_certificate_28 : decode cX12_certificate 28 = .ok (.iconst (-1), 1) := by decide +kernel
theorem dX12_certificate_29 : decode cX12_certificate 29 = .ok (.ireturn, 1) := by decide +kernel
theorem dX12_check_0 : decode cX12_check 0 = .ok (.aload_n 0, 1) := by decide +kernel
theorem dX12_check_1 : decode cX12_check 1 = .ok (.getfield 13, 3) := by decide +kernel
theorem dX12_check_4 : decode cX12_check 4 = .ok (.istore_n 1, 1) := by decide +kernel
theorem dX12_check_5 : decode cX12_check 5 = .ok (.aload_n 0, 1) := by decide +kernel
theorem dX12_check_6 : decode cX12_check 6 = .ok (.iconst 0, 1) := by decide +kernel
theorem dX12_check_7 : decode cX12_check 7 = .ok (.putfield 13, 3) := by decide +kernel
theorem dX12_check_10 : decode cX12_check 10 = .ok (.aload_n 0, 1) := by decide +kernel
theorem dX12_check_11 : decode cX12_check 11 = .ok (.iconst (-1), 1) := by decide +kernel
theorem dX12_check_12 : decode cX12_check 12 = .ok (.putfield 189, 3) := by decide +kernel
theorem dX12_check_15 : decode cX12_check 15 = .ok (.aload_n 0, 1) := by decide +kernel
theorem dX12_check_16 : decode cX12_check 16 = .ok (.iconst (-1), 1) := by decide +kernel
theorem dX12_check_17 : decode cX12_check 17 = .ok (.putfield 192, 3) := by decide +kernel
theorem dX12_check_20 : decode cX12_check 20 = .ok (.aload_n 0, 1) := by decide +kernel
theorem dX12_check_21 : decode cX12_check 21 = .ok (.getfield 62, 3) := by decide +kernel
theorem dX12_check_24 : decode cX12_check 24 = .ok (.iconst 0, 1) := by decide +kernel
theorem dX12_check_25 : decode cX12_check 25 = .ok (.iaload, 1) := by decide +kernel
theorem dX12_check_26 : decode cX12_check 26 = .ok (.ifCond .eq 16, 3) := by decide +kernel
theorem dX12_check_42 : decode cX12_check 42 = .ok (.aload_n 0, 1) := by decide +kernel
theorem dX12_check_43 : decode cX12_check 43 = .ok (.iconst 3, 1) := by decide +kernel
theorem dX12_check_44 : decode cX12_check 44 = .ok (.invokevirtual 224, 3) := by decide +kernel
theorem dX12_check_47 : decode cX12_check 47 = .ok (.ireturn, 1) := by decide +kernel
theorem dX12_broken_0 : decode cX12_broken 0 = .ok (.iload_n 1, 1) := by decide +kernel
theorem dX12_broken_1 : decode cX12_broken 1 = .ok (.ifCond .ne 10, 3) := by decide +kernel
theorem dX12_broken_4 : decode cX12_broken 4 = .ok (.aload_n 0, 1) := by decide +kernel
theorem dX12_broken_5 : decode cX12_broken 5 = .ok (.getfield 189, 3) := by decide +kernel
theorem dX12_broken_8 : decode cX12_broken 8 = .ok (.goto 16, 3) := by decide +kernel
theorem dX12_broken_11 : decode cX12_broken 11 = .ok (.iload_n 1, 1) := by decide +kernel
theorem dX12_broken_12 : decode cX12_broken 12 = .ok (.iconst 1, 1) := by decide +kernel
theorem dX12_broken_13 : decode cX12_broken 13 = .ok (.if_icmp .ne 10, 3) := by decide +kernel
theorem dX12_broken_16 : decode cX12_broken 16 = .ok (.aload_n 0, 1) := by decide +kernel
theorem dX12_broken_17 : decode cX12_broken 17 = .ok (.getfield 192, 3) := by decide +kernel
theorem dX12_broken_20 : decode cX12_broken 20 = .ok (.goto 4, 3) := by decide +kernel
theorem dX12_broken_23 : decode cX12_broken 23 = .ok (.iconst (-1), 1) := by decide +kernel
theorem dX12_broken_24 : decode cX12_broken 24 = .ok (.ireturn, 1) := by decide +kernel
theorem dX12_trials_0 : decode cX12_trials 0 = .ok (.iload_n 1, 1) := by decide +kernel
theorem dX12_trials_1 : decode cX12_trials 1 = .ok (.i2l, 1) := by decide +kernel
theorem dX12_trials_2 : decode cX12_trials 2 = .ok (.lconst 1, 1) := by decide +kernel
theorem dX12_trials_3 : decode cX12_trials 3 = .ok (.ldc2_w 545, 3) := by decide +kernel
theorem dX12_trials_6 : decode cX12_trials 6 = .ok (.invokestatic 263, 3) := by decide +kernel
theorem dX12_trials_9 : decode cX12_trials 9 = .ok (.ifCond .eq 18, 3) := by decide +kernel
theorem dX12_trials_12 : decode cX12_trials 12 = .ok (.aload_n 0, 1) := by decide +kernel
theorem dX12_trials_13 : decode cX12_trials 13 = .ok (.iload_n 2, 1) := by decide +kernel
theorem dX12_trials_14 : decode cX12_trials 14 = .ok (.invokevirtual 373, 3) := by decide +kernel
theorem dX12_trials_17 : decode cX12_trials 17 = .ok (.ifCond .eq 10, 3) := by decide +kernel
theorem dX12_trials_27 : decode cX12_trials 27 = .ok (.aload_n 0, 1) := by decide +kernel
theorem dX12_trials_28 : decode cX12_trials 28 = .ok (.iconst 4, 1) := by decide +kernel
theorem dX12_trials_29 : decode cX12_trials 29 = .ok (.invokevirtual 216, 3) := by decide +kernel
theorem dX12_trials_32 : decode cX12_trials 32 = .ok (.i2l, 1) := by decide +kernel
theorem dX12_trials_33 : decode cX12_trials 33 = .ok (.lreturn, 1) := by decide +kernel
theorem dX12_trial_0 : decode cX12_trial 0 = .ok (.aload_n 0, 1) := by decide +kernel
theorem dX12_trial_1 : decode cX12_trial 1 = .ok (.iload_n 1, 1) := by decide +kernel
theorem dX12_trial_2 : decode cX12_trial 2 = .ok (.invokevirtual 373, 3) := by decide +kernel
theorem dX12_trial_5 : decode cX12_trial 5 = .ok (.ifCond .eq 10, 3) := by decide +kernel
theorem dX12_trial_15 : decode cX12_trial 15 = .ok (.ldc2_w 381, 3) := by decide +kernel
theorem dX12_trial_18 : decode cX12_trial 18 = .ok (.lreturn, 1) := by decide +kernel
theorem dX12_seed_0 : decode cX12_seed 0 = .ok (.iload_n 1, 1) := by decide +kernel
theorem dX12_seed_1 : decode cX12_seed 1 = .ok (.ifCond .ge 9, 3) := by decide +kernel
theorem dX12_seed_4 : decode cX12_seed 4 = .ok (.aload_n 0, 1) := by decide +kernel
theorem dX12_seed_5 : decode cX12_seed 5 = .ok (.iconst 4, 1) := by decide +kernel
theorem dX12_seed_6 : decode cX12_seed 6 = .ok (.invokevirtual 224, 3) := by decide +kernel
theorem dX12_seed_9 : decode cX12_seed 9 = .ok (.ireturn, 1) := by decide +kernel
theorem dX12_seed_10 : decode cX12_seed 10 = .ok (.aload_n 0, 1) := by decide +kernel
theorem dX12_seed_11 : decode cX12_seed 11 = .ok (.iload_n 1, 1) := by decide +kernel
theorem dX12_seed_12 : decode cX12_seed 12 = .ok (.putfield 207, 3) := by decide +kernel
theorem dX12_seed_15 : decode cX12_seed 15 = .ok (.iconst 1, 1) := by decide +kernel
theorem dX12_seed_16 : decode cX12_seed 16 = .ok (.ireturn, 1) := by decide +kernel
theorem dX12_status_0 : decode cX12_status 0 = .ok (.iload_n 1, 1) := by decide +kernel
theorem dX12_status_1 : decode cX12_status 1 = .ok (.i2l, 1) := by decide +kernel
theorem dX12_status_2 : decode cX12_status 2 = .ok (.lconst 0, 1) := by decide +kernel
theorem dX12_status_3 : decode cX12_status 3 = .ok (.ldc2_w 550, 3) := by decide +kernel
theorem dX12_status_6 : decode cX12_status 6 = .ok (.invokestatic 263, 3) := by decide +kernel
theorem dX12_status_9 : decode cX12_status 9 = .ok (.ifCond .eq 12, 3) := by decide +kernel
theorem dX12_status_12 : decode cX12_status 12 = .ok (.aload_n 0, 1) := by decide +kernel
theorem dX12_status_13 : decode cX12_status 13 = .ok (.getfield 17, 3) := by decide +kernel
theorem dX12_status_16 : decode cX12_status 16 = .ok (.iload_n 1, 1) := by decide +kernel
theorem dX12_status_17 : decode cX12_status 17 = .ok (.iaload, 1) := by decide +kernel
theorem dX12_status_18 : decode cX12_status 18 = .ok (.goto 4, 3) := by decide +kernel
theorem dX12_status_21 : decode cX12_status 21 = .ok (.iconst (-1), 1) := by decide +kernel
theorem dX12_status_22 : decode cX12_status 22 = .ok (.ireturn, 1) := by decide +kernel
theorem dJ0_length_8abf5_0 : decode cJ0_length_8abf5 0 = .ok (.aload_n 0, 1) := by decide +kernel
theorem dJ0_length_8abf5_1 : decode cJ0_length_8abf5 1 = .ok (.getfield 9, 3) := by decide +kernel
theorem dJ0_length_8abf5_4 : decode cJ0_length_8abf5 4 = .ok (.arraylength, 1) := by decide +kernel
theorem dJ0_length_8abf5_5 : decode cJ0_length_8abf5 5 = .ok (.aload_n 0, 1) := by decide +kernel
theorem dJ0_length_8abf5_6 : decode cJ0_length_8abf5 6 = .ok (.invokevirtual 335, 3) := by decide +kernel
theorem dJ0_length_8abf5_9 : decode cJ0_length_8abf5 9 = .ok (.ishr, 1) := by decide +kernel
theorem dJ0_length_8abf5_10 : decode cJ0_length_8abf5 10 = .ok (.ireturn, 1) := by decide +kernel
theorem dJ0_charAt_5068e_0 : decode cJ0_charAt_5068e 0 = .ok (.aload_n 0, 1) := by decide +kernel
theorem dJ0_charAt_5068e_1 : decode cJ0_charAt_5068e 1 = .ok (.invokevirtual 492, 3) := by decide +kernel
theorem dJ0_charAt_5068e_4 : decode cJ0_charAt_5068e 4 = .ok (.ifCond .eq 12, 3) := by decide +kernel
theorem dJ0_charAt_5068e_7 : decode cJ0_charAt_5068e 7 = .ok (.aload_n 0, 1) := by decide +kernel
theorem dJ0_charAt_5068e_8 : decode cJ0_charAt_5068e 8 = .ok (.getfield 9, 3) := by decide +kernel
theorem dJ0_charAt_5068e_11 : decode cJ0_charAt_5068e 11 = .ok (.iload_n 1, 1) := by decide +kernel
theorem dJ0_charAt_5068e_12 : decode cJ0_charAt_5068e 12 = .ok (.invokestatic 495, 3) := by decide +kernel
theorem dJ0_charAt_5068e_15 : decode cJ0_charAt_5068e 15 = .ok (.ireturn, 1) := by decide +kernel
theorem dJ0_coder_7d493_0 : decode cJ0_coder_7d493 0 = .ok (.getstatic 38, 3) := by decide +kernel
theorem dJ0_coder_7d493_3 : decode cJ0_coder_7d493 3 = .ok (.ifCond .eq 10, 3) := by decide +kernel
theorem dJ0_coder_7d493_6 : decode cJ0_coder_7d493 6 = .ok (.aload_n 0, 1) := by decide +kernel
theorem dJ0_coder_7d493_7 : decode cJ0_coder_7d493 7 = .ok (.getfield 15, 3) := by decide +kernel
theorem dJ0_coder_7d493_10 : decode cJ0_coder_7d493 10 = .ok (.goto 4, 3) := by decide +kernel
theorem dJ0_coder_7d493_14 : decode cJ0_coder_7d493 14 = .ok (.ireturn, 1) := by decide +kernel
theorem dJ0_isLatin1_aae02_0 : decode cJ0_isLatin1_aae02 0 = .ok (.getstatic 38, 3) := by decide +kernel
theorem dJ0_isLatin1_aae02_3 : decode cJ0_isLatin1_aae02 3 = .ok (.ifCond .eq 14, 3) := by decide +kernel
theorem dJ0_isLatin1_aae02_6 : decode cJ0_isLatin1_aae02 6 = .ok (.aload_n 0, 1) := by decide +kernel
theorem dJ0_isLatin1_aae02_7 : decode cJ0_isLatin1_aae02 7 = .ok (.getfield 15, 3) := by decide +kernel
theorem dJ0_isLatin1_aae02_10 : decode cJ0_isLatin1_aae02 10 = .ok (.ifCond .ne 7, 3) := by decide +kernel
theorem dJ0_isLatin1_aae02_13 : decode cJ0_isLatin1_aae02 13 = .ok (.iconst 1, 1) := by decide +kernel
theorem dJ0_isLatin1_aae02_14 : decode cJ0_isLatin1_aae02 14 = .ok (.goto 4, 3) := by decide +kernel
theorem dJ0_isLatin1_aae02_18 : decode cJ0_isLatin1_aae02 18 = .ok (.ireturn, 1) := by decide +kernel
theorem dJ0_checkIndex_df160_0 : decode cJ0_checkIndex_df160 0 = .ok (.iload_n 0, 1) := by decide +kernel
theorem dJ0_checkIndex_df160_1 : decode cJ0_checkIndex_df160 1 = .ok (.iload_n 1, 1) := by decide +kernel
theorem dJ0_checkIndex_df160_2 : decode cJ0_checkIndex_df160 2 = .ok (.getstatic 1053, 3) := by decide +kernel
theorem dJ0_checkIndex_df160_5 : decode cJ0_checkIndex_df160 5 = .ok (.invokestatic 1059, 3) := by decide +kernel
theorem dJ0_checkIndex_df160_8 : decode cJ0_checkIndex_df160 8 = .ok (.pop, 1) := by decide +kernel
theorem dJ0_checkIndex_df160_9 : decode cJ0_checkIndex_df160 9 = .ok (.return_, 1) := by decide +kernel
theorem dJ1_charAt_3b067_0 : decode cJ1_charAt_3b067 0 = .ok (.iload_n 1, 1) := by decide +kernel
theorem dJ1_charAt_3b067_1 : decode cJ1_charAt_3b067 1 = .ok (.aload_n 0, 1) := by decide +kernel
theorem dJ1_charAt_3b067_2 : decode cJ1_charAt_3b067 2 = .ok (.arraylength, 1) := by decide +kernel
theorem dJ1_charAt_3b067_3 : decode cJ1_charAt_3b067 3 = .ok (.invokestatic 9, 3) := by decide +kernel
theorem dJ1_charAt_3b067_6 : decode cJ1_charAt_3b067 6 = .ok (.aload_n 0, 1) := by decide +kernel
theorem dJ1_charAt_3b067_7 : decode cJ1_charAt_3b067 7 = .ok (.iload_n 1, 1) := by decide +kernel
theorem dJ1_charAt_3b067_8 : decode cJ1_charAt_3b067 8 = .ok (.baload, 1) := by decide +kernel
theorem dJ1_charAt_3b067_9 : decode cJ1_charAt_3b067 9 = .ok (.sipush 255, 3) := by decide +kernel
theorem dJ1_charAt_3b067_12 : decode cJ1_charAt_3b067 12 = .ok (.iand, 1) := by decide +kernel
theorem dJ1_charAt_3b067_13 : decode cJ1_charAt_3b067 13 = .ok (.i2c, 1) := by decide +kernel
theorem dJ1_charAt_3b067_14 : decode cJ1_charAt_3b067 14 = .ok (.ireturn, 1) := by decide +kernel
theorem dJ3_checkIndex_8e157_0 : decode cJ3_checkIndex_8e157 0 = .ok (.iload_n 0, 1) := by decide +kernel
theorem dJ3_checkIndex_8e157_1 : decode cJ3_checkIndex_8e157 1 = .ok (.ifCond .lt 8, 3) := by decide +kernel
theorem dJ3_checkIndex_8e157_4 : decode cJ3_checkIndex_8e157 4 = .ok (.iload_n 0, 1) := by decide +kernel
theorem dJ3_checkIndex_8e157_5 : decode cJ3_checkIndex_8e157 5 = .ok (.iload_n 1, 1) := by decide +kernel
theorem dJ3_checkIndex_8e157_6 : decode cJ3_checkIndex_8e157 6 = .ok (.if_icmp .lt 10, 3) := by decide +kernel
theorem dJ3_checkIndex_8e157_16 : decode cJ3_checkIndex_8e157 16 = .ok (.iload_n 0, 1) := by decide +kernel
theorem dJ3_checkIndex_8e157_17 : decode cJ3_checkIndex_8e157 17 = .ok (.ireturn, 1) := by decide +kernel
